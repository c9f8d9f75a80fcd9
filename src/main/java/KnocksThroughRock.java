/** Two gangs who dig towards each other through a mountain, and what knocks tell of it. */
public final class KnocksThroughRock {
  private static final int WIDTH = 5;
  private static final int HEIGHT = 4;
  private static final int CELLS = WIDTH * HEIGHT;
  private static final int GANGS = 2;
  private static final int SIDES = 4;
  private static final int FIGURES = 10;
  private static final int SHELVES = 8;

  private static final int ROCK = 0;
  private static final int GRANITE = 1;
  private static final int CLAY = 2;
  private static final int WATER = 3;
  private static final int VEIN = 4;
  private static final int HOLLOW = 5;
  private static final int FAULT = 6;
  private static final int DUG = 7;
  private static final int KINDS = 8;

  private static final int BYTES = 0;
  private static final int SHORTS = 1;
  private static final int INTS = 2;
  private static final int SORTS = 3;

  private static final int NO_SUCH = -1;
  private static final int NOT_NOW = -3;
  private static final int NONE = -4;
  private static final int NOTHING_HELD = -11;
  private static final int OTHER_KIND = -12;
  private static final int NO_PLACE = -13;
  private static final int BELOW_ZERO = -14;
  private static final int NO_FAILURE = -15;

  /** No TIME and no TOIL in a MOUNTAIN comes near to it, and sums with it stay ints. */
  private static final int FAR = 1000000;
  /** In place of a CELL, a SORT or a place, where there is none. */
  private static final int NOWHERE = -1;

  private static final int MOST_ELEMENTS = 100;
  private static final int MOST_LISTENED = 20;
  private static final int MOST_CODES = 8;
  private static final int CODE_BITS = 8;
  private static final int CODE_MASK = 255;
  private static final int MOST_LOUD = 99;
  private static final int MOST_DRAWN = 40;
  private static final int ALL_BUT_SIGN = 0x7FFFFFFF;
  private static final int STRAY_BYTE = -1000;
  private static final int STRAY_STATEMENT = -2000;

  private final Mountain now = new Mountain();
  /** What is done in mind alone is done here, on a copy of what is so. */
  private final Mountain mind = new Mountain();
  private final Mountain kept = new Mountain();
  private boolean isKept = false;

  private final Shelf[] shelves = new Shelf[SHELVES];
  private final Ways ways = new Ways();
  private final Ways otherWays = new Ways();
  private final int[] times = new int[CELLS * CELLS];
  private final int[] clashes = new int[MOST_CODES];

  public KnocksThroughRock() {
    for (int d = 0; d < SHELVES; d++) {
      shelves[d] = new Shelf();
    }
  }

  // ---- mountains

  public int mountain(int d) {
    Shelf text = rowOn(d, BYTES);
    if (text == null) {
      return whyNot(d);
    }
    int stray = strayByte(text);
    if (stray != NOWHERE) {
      return STRAY_BYTE - stray;
    }
    mind.become(now);
    int answer = obeyAll(text);
    if (answer > 0) {
      now.become(mind);
    }
    return answer;
  }

  public int cell(int cell, int what) {
    if (!isBelow(cell, CELLS)) {
      return NO_SUCH;
    }
    Rock rock = now.cells[cell];
    switch (what) {
      case 0:
        return rock.kind();
      case 1:
        return rock.figure;
      case 2:
        return rock.slow();
      case 3:
        return rock.loss();
      case 4:
        return rock.toil();
      default:
        return NO_SUCH;
    }
  }

  public int lay(int d, int cell) {
    if (!isBelow(cell, CELLS)) {
      return NO_SUCH;
    }
    Rock rock = rockOn(d);
    if (rock == null) {
      return whyNot(d);
    }
    int before = now.cells[cell].kind();
    now.cells[cell] = rock;
    return before;
  }

  public int gang(int gang, int what) {
    if (!isBelow(gang, GANGS) || !isBelow(what, 2)) {
      return NO_SUCH;
    }
    return what == 0 ? now.places[gang] : now.hours[gang];
  }

  public int dig(int gang, int side) {
    if (!isBelow(gang, GANGS) || !isBelow(side, SIDES)) {
      return NO_SUCH;
    }
    int toil = now.advance(gang, side);
    return toil == NOWHERE ? NOT_NOW : toil;
  }

  public int met() {
    return now.gangsMet() ? 1 : 0;
  }

  // ---- knocks

  public int time(int from, int to) {
    if (!isBelow(from, CELLS) || !isBelow(to, CELLS)) {
      return NO_SUCH;
    }
    knockFrom(from);
    return ways.least[to];
  }

  public int loud(int from, int to, int was) {
    if (!isBelow(from, CELLS) || !isBelow(to, CELLS) || !isBelow(was, MOST_LOUD + 1)) {
      return NO_SUCH;
    }
    knockFrom(from);
    return Math.max(0, was - ways.lost[to]);
  }

  public int paths(int from, int to) {
    if (!isBelow(from, CELLS) || !isBelow(to, CELLS)) {
      return NO_SUCH;
    }
    knockFrom(from);
    return ways.number[to];
  }

  public int reaches(int from, int was) {
    if (!isBelow(from, CELLS) || was < 1 || was > MOST_LOUD) {
      return NO_SUCH;
    }
    knockFrom(from);
    int heard = 0;
    for (int c = 0; c < CELLS; c++) {
      if (was > ways.lost[c]) {
        heard |= 1 << c;
      }
    }
    return heard;
  }

  public int from(int d, int what) {
    if (!isBelow(what, 2)) {
      return NO_SUCH;
    }
    Shelf told = rowOn(d, INTS);
    if (told == null) {
      return whyNot(d);
    }
    if (told.size % 2 != 0 || !tellsCells(told, 2)) {
      return NO_PLACE;
    }
    ways.byKnocks(now);
    int many = 0;
    int first = NONE;
    for (int c = CELLS - 1; c >= 0; c--) {
      ways.spread(c);
      if (mayHaveKnocked(told)) {
        many++;
        first = c;
      }
    }
    return what == 0 ? many : first;
  }

  public int listen(int d, int what) {
    if (!isBelow(what, 2)) {
      return NO_SUCH;
    }
    Shelf told = rowOn(d, BYTES);
    if (told == null) {
      return whyNot(d);
    }
    if (told.size > MOST_LISTENED || !tellsCells(told, 1)) {
      return NO_PLACE;
    }
    if (told.size == 0) {
      return NONE;
    }
    takeTimes();
    int best = 0;
    int least = FAR;
    for (int c = 0; c < CELLS; c++) {
      int alike = mostAlike(told, c);
      if (alike < least) {
        least = alike;
        best = c;
      }
    }
    return what == 0 ? best : least;
  }

  public int rocks(int cell, int figure, int from, int to, int time) {
    if (!isBelow(cell, CELLS) || !isBelow(figure, FIGURES)) {
      return NO_SUCH;
    }
    if (!isBelow(from, CELLS) || !isBelow(to, CELLS)) {
      return NO_SUCH;
    }
    mind.become(now);
    int kinds = 0;
    for (int k = 0; k < KINDS; k++) {
      mind.cells[cell] = rockOf(k, figure);
      ways.byKnocks(mind);
      ways.spread(from);
      if (ways.least[to] == time) {
        kinds |= 1 << k;
      }
    }
    return kinds;
  }

  // ---- to meet

  public int toils() {
    int from = now.places[0];
    int to = now.places[1];
    if (from == to) {
      return 0;
    }
    ways.byToil(now);
    ways.spread(from);
    return ways.least[to] - ways.cost[to];
  }

  public int soon() {
    return soonIn(now);
  }

  public int side(int gang, int what) {
    if (!isBelow(gang, GANGS) || !isBelow(what, 2)) {
      return NO_SUCH;
    }
    int best = 0;
    int least = FAR;
    for (int side = 0; side < SIDES; side++) {
      mind.become(now);
      if (mind.advance(gang, side) != NOWHERE) {
        int soon = soonIn(mind);
        if (soon < least) {
          least = soon;
          best = side;
        }
      }
    }
    return what == 0 ? best : least;
  }

  // ---- codes

  public int taken(int one, int other, int e) {
    if (!isBelow(one, CODE_MASK + 1) || !isBelow(other, CODE_MASK + 1)) {
      return NO_SUCH;
    }
    if (!isBelow(e, CODE_BITS + 1)) {
      return NO_SUCH;
    }
    return areAlike(one, other, e) ? 1 : 0;
  }

  public int safe(int d, int e, int what) {
    if (!isBelow(e, CODE_BITS + 1) || !isBelow(what, 2)) {
      return NO_SUCH;
    }
    Shelf codes = rowOn(d, BYTES);
    if (codes == null) {
      return whyNot(d);
    }
    if (codes.size > MOST_CODES) {
      return NO_PLACE;
    }
    findClashes(codes, e);
    int best = 0;
    int most = 0;
    for (int set = 1; set < 1 << codes.size; set++) {
      int many = Integer.bitCount(set);
      if (many > most && isWithoutClash(set)) {
        most = many;
        best = set;
      }
    }
    return what == 0 ? best : most;
  }

  // ---- seeds, told digs

  public int seeded(int n, int z, int what) {
    if (n < 1 || n > MOST_DRAWN || !isBelow(what, 2)) {
      return NO_SUCH;
    }
    mind.become(now);
    int first = mind.gangsMet() ? 0 : NONE;
    int seed = z;
    for (int i = 1; i <= n; i++) {
      seed = nextSeed(seed);
      int gang = draw(seed, GANGS);
      seed = nextSeed(seed);
      mind.advance(gang, draw(seed, SIDES));
      if (first == NONE && mind.gangsMet()) {
        first = i;
      }
    }
    return what == 0 ? mind.allHours() : first;
  }

  public int judge(int d) {
    Shelf told = rowOn(d);
    if (told == null) {
      return whyNot(d);
    }
    mind.become(now);
    int place = 0;
    for (; place + 2 < told.size; place += 3) {
      int gang = told.at(place);
      if (!isBelow(gang, GANGS)) {
        return place;
      }
      if (mind.advance(gang, told.at(place + 1)) == NOWHERE) {
        return place + 1;
      }
      if (mind.hours[gang] != told.at(place + 2)) {
        return place + 2;
      }
    }
    return place < told.size ? place : NONE;
  }

  // ---- the image, what is told

  public int image() {
    kept.become(now);
    isKept = true;
    return kept.allHours();
  }

  public int restore() {
    if (!isKept) {
      return NOT_NOW;
    }
    now.become(kept);
    return now.allHours();
  }

  public int count(int what) {
    if (!isBelow(what, KINDS + 2)) {
      return NO_SUCH;
    }
    int sum = 0;
    for (int c = 0; c < CELLS; c++) {
      Rock rock = now.cells[c];
      if (what == KINDS) {
        sum += rock.slow();
      } else if (what == KINDS + 1) {
        sum += rock.toil();
      } else if (what == rock.kind()) {
        sum++;
      }
    }
    return sum;
  }

  // ---- shelves

  public int keep(int d, int what, int k, int figure) {
    if (!isBelow(d, SHELVES) || !isBelow(what, 2)) {
      return NO_SUCH;
    }
    if (what == 0) {
      shelves[d].clear();
      return 0;
    }
    if (!isBelow(k, KINDS) || !isBelow(figure, FIGURES)) {
      return NO_SUCH;
    }
    shelves[d].holdRock(rockOf(k, figure));
    return 0;
  }

  public int row(int d, int sort, int n) {
    if (!isBelow(d, SHELVES) || !isBelow(sort, SORTS) || n > MOST_ELEMENTS) {
      return NO_SUCH;
    }
    if (n < 0) {
      return BELOW_ZERO;
    }
    shelves[d].holdRow(sort, n);
    return 0;
  }

  public int put(int d, int i, int v) {
    Shelf row = rowOn(d);
    if (row == null) {
      return whyNot(d);
    }
    if (!isBelow(i, row.size)) {
      return NO_PLACE;
    }
    row.set(i, v);
    return 0;
  }

  public long element(int d, int i) throws IllegalArgumentException, IllegalStateException {
    if (!isBelow(d, SHELVES)) {
      throw new IllegalArgumentException("no such SHELF");
    }
    Shelf row = rowOn(d);
    if (row == null) {
      throw new IllegalStateException("no ROW");
    }
    if (!isBelow(i, row.size)) {
      throw new IllegalStateException("no such place");
    }
    return row.at(i);
  }

  public int copy(int d, int i, int e, int j, int n) {
    if (!isBelow(d, SHELVES) || !isBelow(e, SHELVES)) {
      return NO_SUCH;
    }
    if (shelves[d].isEmpty() || shelves[e].isEmpty()) {
      return NOTHING_HELD;
    }
    Shelf source = rowOn(d);
    Shelf target = rowOn(e);
    if (source == null || target == null || source.sort != target.sort) {
      return OTHER_KIND;
    }
    if (!source.spans(i, n) || !target.spans(j, n)) {
      return NO_PLACE;
    }
    System.arraycopy(source.elements, i, target.elements, j, n);
    return n;
  }

  public int pay(int d) {
    Rock rock = rockOn(d);
    if (rock == null) {
      return whyNot(d);
    }
    return rock.worth();
  }

  public int toss(int d) {
    Rock rock = rockOn(d);
    if (rock == null) {
      return whyNot(d);
    }
    try {
      rock.fail();
    } catch (IllegalStateException dry) {
      return rock.figure;
    } catch (UnsupportedOperationException wet) {
      return rock.figure + 100;
    } catch (IllegalArgumentException rich) {
      return 200 + rock.worth();
    }
    return NO_FAILURE;
  }

  // ---- what the calls share

  private static boolean isBelow(int n, int bound) {
    return n >= 0 && n < bound;
  }

  /** The NEIGHBOUR of a CELL towards a side; NOWHERE if there is none, or no such side. */
  private static int neighbour(int cell, int side) {
    int x = cell % WIDTH;
    int y = cell / WIDTH;
    switch (side) {
      case 0:
        return y > 0 ? cell - WIDTH : NOWHERE;
      case 1:
        return x < WIDTH - 1 ? cell + 1 : NOWHERE;
      case 2:
        return y < HEIGHT - 1 ? cell + WIDTH : NOWHERE;
      case 3:
        return x > 0 ? cell - 1 : NOWHERE;
      default:
        return NOWHERE;
    }
  }

  private static Rock rockOf(int kind, int figure) {
    switch (kind) {
      case GRANITE:
        return new Granite(figure);
      case CLAY:
        return new Clay(figure);
      case WATER:
        return new Water(figure);
      case VEIN:
        return new Vein(figure);
      case HOLLOW:
        return new Hollow(figure);
      case FAULT:
        return new Fault(figure);
      case DUG:
        return new Dug(figure);
      default:
        return new Rock(figure);
    }
  }

  /** The ROCK on a SHELF; null if there is none, and whyNot tells why. */
  private Rock rockOn(int d) {
    return isBelow(d, SHELVES) ? shelves[d].rock : null;
  }

  /** The SHELF, if a ROW is on it; null if there is none, and whyNot tells why. */
  private Shelf rowOn(int d) {
    return isBelow(d, SHELVES) && shelves[d].sort != NOWHERE ? shelves[d] : null;
  }

  private Shelf rowOn(int d, int sort) {
    Shelf row = rowOn(d);
    return row != null && row.sort == sort ? row : null;
  }

  private int whyNot(int d) {
    if (!isBelow(d, SHELVES)) {
      return NO_SUCH;
    }
    return shelves[d].isEmpty() ? NOTHING_HELD : OTHER_KIND;
  }

  // ---- how a MOUNTAIN is read

  /** How many digits stand behind a STATEMENT's letter; NOWHERE: it is no such letter. */
  private static int digitsBehind(int letter) {
    switch (letter) {
      case 'k':
        return 4;
      case 'g':
        return 3;
      case 'd':
        return 2;
      default:
        return NOWHERE;
    }
  }

  /** The place of the first byte with which no MOUNTAIN can go on; NOWHERE: all are in order. */
  private static int strayByte(Shelf text) {
    int digits = NOWHERE;
    for (int i = 0; i < text.size; i++) {
      if (digits == NOWHERE) {
        digits = digitsBehind(text.at(i));
        if (digits == NOWHERE) {
          return i;
        }
      } else if (digits > 0) {
        if (!isBelow(text.digit(i), 10)) {
          return i;
        }
        digits--;
      } else {
        if (text.at(i) != ';') {
          return i;
        }
        digits = NOWHERE;
      }
    }
    boolean isWhole = text.size > 0 && digits == NOWHERE;
    return isWhole ? NOWHERE : text.size;
  }

  /**
   * Does in mind what a text without stray bytes says: how many STATEMENTS, or the FAULT. In such a
   * text every letter begins a STATEMENT.
   */
  private int obeyAll(Shelf text) {
    int many = 0;
    for (int i = 0; i < text.size; i++) {
      if (digitsBehind(text.at(i)) != NOWHERE) {
        if (!obey(text, i)) {
          return STRAY_STATEMENT - i;
        }
        many++;
      }
    }
    return many;
  }

  private boolean obey(Shelf text, int place) {
    int one = text.digit(place + 1);
    int two = text.digit(place + 2);
    int three = text.digit(place + 3);
    switch (text.at(place)) {
      case 'k':
        return obeyKind(10 * one + two, three, text.digit(place + 4));
      case 'g':
        return obeyGang(one, 10 * two + three);
      case 'd':
        return isBelow(one, GANGS) && mind.advance(one, two) != NOWHERE;
      default:
        return false;
    }
  }

  private boolean obeyKind(int cell, int kind, int figure) {
    if (!isBelow(cell, CELLS) || !isBelow(kind, KINDS)) {
      return false;
    }
    mind.cells[cell] = rockOf(kind, figure);
    return true;
  }

  private boolean obeyGang(int gang, int cell) {
    if (!isBelow(gang, GANGS) || !isBelow(cell, CELLS)) {
      return false;
    }
    mind.places[gang] = cell;
    return true;
  }

  // ---- how knocks are followed

  private void knockFrom(int from) {
    ways.byKnocks(now);
    ways.spread(from);
  }

  /** Whether at every so-manieth place of a ROW a CELL is told. */
  private static boolean tellsCells(Shelf told, int step) {
    for (int i = 0; i < told.size; i += step) {
      if (!isBelow(told.at(i), CELLS)) {
        return false;
      }
    }
    return true;
  }

  /** Whether the ways that are spread begin where one knock was that all the told hours fit. */
  private boolean mayHaveKnocked(Shelf told) {
    for (int i = 2; i + 1 < told.size; i += 2) {
      if (hourOfKnock(told, i) != hourOfKnock(told, 0)) {
        return false;
      }
    }
    return true;
  }

  /** A long, since a told hour may be any int: a wrapped difference would fit by mistake. */
  private long hourOfKnock(Shelf told, int i) {
    return (long) told.at(i + 1) - ways.least[told.at(i)];
  }

  private void takeTimes() {
    ways.byKnocks(now);
    for (int c = 0; c < CELLS; c++) {
      ways.spread(c);
      System.arraycopy(ways.least, 0, times, c * CELLS, CELLS);
    }
  }

  /** The greatest number of places of a ROW whose CELLS have one TIME to a CELL. */
  private int mostAlike(Shelf told, int to) {
    int most = 0;
    for (int i = 0; i < told.size; i++) {
      int time = times[told.at(i) * CELLS + to];
      int alike = 0;
      for (int j = i; j < told.size; j++) {
        if (times[told.at(j) * CELLS + to] == time) {
          alike++;
        }
      }
      most = Math.max(most, alike);
    }
    return most;
  }

  // ---- how gangs meet

  private int soonIn(Mountain mountain) {
    if (mountain.gangsMet()) {
      return 0;
    }
    ways.byToil(mountain);
    ways.spread(mountain.places[0]);
    otherWays.byToil(mountain);
    otherWays.spread(mountain.places[1]);
    int least = FAR;
    for (int u = 0; u < CELLS; u++) {
      for (int side = 0; side < SIDES; side++) {
        int v = neighbour(u, side);
        if (v != NOWHERE) {
          least = Math.min(least, Math.max(ways.least[u], otherWays.least[v]));
        }
      }
    }
    return least;
  }

  // ---- how codes are told apart

  private static boolean areAlike(int one, int other, int e) {
    return Integer.bitCount(one & ~other) <= e && Integer.bitCount(other & ~one) <= e;
  }

  /** Sets for each place of a ROW of CODES the later places (bits) whose CODES clash with its. */
  private void findClashes(Shelf codes, int e) {
    for (int i = 0; i < MOST_CODES; i++) {
      clashes[i] = 0;
      for (int j = i + 1; j < codes.size; j++) {
        if (areAlike(codes.at(i) & CODE_MASK, codes.at(j) & CODE_MASK, e)) {
          clashes[i] |= 1 << j;
        }
      }
    }
  }

  private boolean isWithoutClash(int set) {
    for (int i = 0; i < MOST_CODES; i++) {
      if ((set >> i & 1) == 1 && (set & clashes[i]) != 0) {
        return false;
      }
    }
    return true;
  }

  // ---- how seeds are drawn

  private static int nextSeed(int z) {
    return z * 1103515245 + 12345;
  }

  private static int draw(int z, int bound) {
    int high = (z & ALL_BUT_SIGN) / 65536;
    return bound > 0 ? high % bound : 0;
  }

  // ---- kinds of rock, each under the one whose numbers it takes up

  private static class Rock {
    final int figure;

    Rock(int figure) {
      this.figure = figure;
    }

    int kind() {
      return ROCK;
    }

    int slow() {
      return 4;
    }

    int loss() {
      return 2;
    }

    int toil() {
      return 5;
    }

    /** Its PAY. */
    int worth() {
      return 3;
    }

    /** Throws its FAILURE; comes back, if it has none. */
    void fail() {
      if (figure != 0) {
        throw new IllegalStateException("ROCK fell");
      }
    }
  }

  private static class Granite extends Rock {
    Granite(int figure) {
      super(figure);
    }

    int kind() {
      return GRANITE;
    }

    int slow() {
      return super.slow() - 2;
    }

    int loss() {
      return super.loss() - 1;
    }

    int toil() {
      return super.toil() * 2;
    }

    int worth() {
      return super.worth() + figure;
    }
  }

  private static class Clay extends Rock {
    Clay(int figure) {
      super(figure);
    }

    int kind() {
      return CLAY;
    }

    int slow() {
      return super.slow() + figure;
    }

    int loss() {
      return super.loss() + 3;
    }

    int toil() {
      return super.toil() - 2;
    }

    int worth() {
      return super.worth() - 1;
    }
  }

  private static final class Water extends Clay {
    Water(int figure) {
      super(figure);
    }

    int kind() {
      return WATER;
    }

    int slow() {
      return super.slow() / 2;
    }

    int loss() {
      return Math.max(0, super.loss() - figure);
    }

    int toil() {
      return super.toil() * (figure + 1);
    }

    int worth() {
      return super.worth() * 2;
    }

    void fail() {
      if (figure != 0) {
        throw new UnsupportedOperationException("WATER broke in");
      }
    }
  }

  private static final class Vein extends Granite {
    Vein(int figure) {
      super(figure);
    }

    int kind() {
      return VEIN;
    }

    int slow() {
      return super.slow() + 1;
    }

    int loss() {
      return 0;
    }

    int toil() {
      return super.toil() + figure;
    }

    int worth() {
      return super.worth() * (figure + 1);
    }

    void fail() {
      if (figure != 0) {
        throw new IllegalArgumentException("a VEIN fell");
      }
    }
  }

  private static class Hollow extends Rock {
    Hollow(int figure) {
      super(figure);
    }

    int kind() {
      return HOLLOW;
    }

    int slow() {
      return super.slow() - 3;
    }

    int toil() {
      return super.toil() - 4;
    }
  }

  private static final class Fault extends Clay {
    Fault(int figure) {
      super(figure);
    }

    int kind() {
      return FAULT;
    }

    int slow() {
      return super.slow() * 2;
    }

    int loss() {
      return super.loss() + figure;
    }

    int toil() {
      return super.toil() + 4;
    }

    int worth() {
      return super.worth() + 5;
    }
  }

  private static final class Dug extends Hollow {
    Dug(int figure) {
      super(figure);
    }

    int kind() {
      return DUG;
    }

    int loss() {
      return super.loss() - 1;
    }

    int toil() {
      return 0;
    }

    int worth() {
      return super.worth() - figure;
    }

    void fail() {
      // What is dug out already can't fall in.
    }
  }

  /** CELLS and GANGS; ROCKS never change, so MOUNTAINS and SHELVES may share them. */
  private static final class Mountain {
    final Rock[] cells = new Rock[CELLS];
    final int[] places = new int[GANGS];
    final int[] hours = new int[GANGS];
    private final Rock dug = new Dug(0);

    Mountain() {
      Rock plain = new Rock(0);
      for (int c = 0; c < CELLS; c++) {
        cells[c] = plain;
      }
      places[1] = CELLS - 1;
    }

    void become(Mountain other) {
      for (int c = 0; c < CELLS; c++) {
        cells[c] = other.cells[c];
      }
      for (int g = 0; g < GANGS; g++) {
        places[g] = other.places[g];
        hours[g] = other.hours[g];
      }
    }

    /** A GANG DIGS towards a side: TOIL; NOWHERE, and nothing is done, if it can't. */
    int advance(int gang, int side) {
      int cell = neighbour(places[gang], side);
      if (cell == NOWHERE) {
        return NOWHERE;
      }
      int toil = cells[cell].toil();
      places[gang] = cell;
      hours[gang] += toil;
      cells[cell] = dug;
      return toil;
    }

    boolean gangsMet() {
      if (places[0] == places[1]) {
        return true;
      }
      for (int side = 0; side < SIDES; side++) {
        if (neighbour(places[0], side) == places[1]) {
          return true;
        }
      }
      return false;
    }

    int allHours() {
      return hours[0] + hours[1];
    }
  }

  /** The cheapest ways from one CELL to all, by SLOW or by TOIL of the CELLS that are entered. */
  private static final class Ways {
    final int[] cost = new int[CELLS];
    final int[] least = new int[CELLS];
    /** The least LOST of the cheapest ways, and how many they are: by SLOW alone. */
    final int[] lost = new int[CELLS];
    final int[] number = new int[CELLS];
    private final int[] loss = new int[CELLS];
    private final boolean[] isSettled = new boolean[CELLS];

    void byKnocks(Mountain mountain) {
      for (int c = 0; c < CELLS; c++) {
        cost[c] = mountain.cells[c].slow();
        loss[c] = mountain.cells[c].loss();
      }
    }

    void byToil(Mountain mountain) {
      for (int c = 0; c < CELLS; c++) {
        cost[c] = mountain.cells[c].toil();
        loss[c] = 0;
      }
    }

    /**
     * Every SLOW is above 0, so all CELLS ahead of one on its cheapest ways are settled ahead of
     * it: its LOST and the number of its ways are whole when it is settled.
     */
    void spread(int start) {
      for (int c = 0; c < CELLS; c++) {
        least[c] = FAR;
        isSettled[c] = false;
      }
      least[start] = 0;
      lost[start] = 0;
      number[start] = 1;
      for (int turn = 0; turn < CELLS; turn++) {
        int cell = nearest();
        isSettled[cell] = true;
        for (int side = 0; side < SIDES; side++) {
          enter(neighbour(cell, side), cell);
        }
      }
    }

    /** Of the CELLS not yet settled one with the least cost; some CELL is not, in each turn. */
    private int nearest() {
      int best = 0;
      int bestLeast = FAR + 1;
      for (int c = 0; c < CELLS; c++) {
        if (!isSettled[c] && least[c] < bestLeast) {
          best = c;
          bestLeast = least[c];
        }
      }
      return best;
    }

    private void enter(int cell, int behind) {
      if (cell == NOWHERE || isSettled[cell]) {
        return;
      }
      int whole = least[behind] + cost[cell];
      int wholeLost = lost[behind] + loss[cell];
      if (whole < least[cell]) {
        least[cell] = whole;
        lost[cell] = wholeLost;
        number[cell] = number[behind];
      } else if (whole == least[cell]) {
        lost[cell] = Math.min(lost[cell], wholeLost);
        number[cell] += number[behind];
      }
    }
  }

  /** Holds nothing, a ROCK (not null), or a ROW (its SORT is one), whose room is used again. */
  private static final class Shelf {
    Rock rock = null;
    int sort = NOWHERE;
    int size = 0;
    final int[] elements = new int[MOST_ELEMENTS];

    boolean isEmpty() {
      return rock == null && sort == NOWHERE;
    }

    void clear() {
      rock = null;
      sort = NOWHERE;
      size = 0;
    }

    void holdRock(Rock held) {
      clear();
      rock = held;
    }

    void holdRow(int newSort, int newSize) {
      clear();
      sort = newSort;
      size = newSize;
      for (int i = 0; i < newSize && i < MOST_ELEMENTS; i++) {
        elements[i] = 0;
      }
    }

    boolean spans(int place, int many) {
      return place >= 0 && many >= 0 && place <= size - many;
    }

    void set(int i, int v) {
      if (sort == BYTES) {
        elements[i] = (byte) v;
      } else if (sort == SHORTS) {
        elements[i] = (short) v;
      } else {
        elements[i] = v;
      }
    }

    /** NOWHERE beyond the end: no letter, no digit, and so a text stops there. */
    int at(int i) {
      return isBelow(i, size) ? elements[i] : NOWHERE;
    }

    /** The number that a digit's byte tells; of other bytes one that is no digit's. */
    int digit(int i) {
      return at(i) - '0';
    }
  }
}
