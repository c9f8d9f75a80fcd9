/**
 * The document done once more, as slowly and plainly as can be: every WAY is walked, kinds are rows
 * of numbers. The tests compare the class with it.
 */
final class Model {
  private static final int ROW = 100;
  private static final int ROCK = 200;
  private static final int FAR = 1 << 28;

  int[] kind = new int[20];
  int[] figure = new int[20];
  int[] place = {0, 19};
  int[] hours = {0, 0};
  private Model image = null;
  private final int[] held = new int[8];
  private final int[] rockKind = new int[8];
  private final int[] rockFigure = new int[8];
  private final int[][] row = new int[8][];

  // What a walk over all WAYS from a CELL has found, for each CELL where one ends.
  private final int[] time = new int[20];
  private final int[] lost = new int[20];
  private final int[] number = new int[20];
  private final int[] toilTo = new int[20];
  private final int[] toilBetween = new int[20];

  private Model copied() {
    Model m = new Model();
    m.kind = kind.clone();
    m.figure = figure.clone();
    m.place = place.clone();
    m.hours = hours.clone();
    return m;
  }

  private void become(Model m) {
    kind = m.kind.clone();
    figure = m.figure.clone();
    place = m.place.clone();
    hours = m.hours.clone();
  }

  static int slow(int kind, int f) {
    return new int[] {4, 2, 4 + f, (4 + f) / 2, 3, 1, 8 + 2 * f, 1}[kind];
  }

  static int loss(int kind, int f) {
    return new int[] {2, 1, 5, f > 5 ? 0 : 5 - f, 0, 2, 5 + f, 1}[kind];
  }

  static int toil(int kind, int f) {
    return new int[] {5, 10, 3, 3 * (f + 1), 10 + f, 1, 7, 0}[kind];
  }

  static int payOf(int kind, int f) {
    return new int[] {3, 3 + f, 2, 4, (3 + f) * (f + 1), 3, 7, 3 - f}[kind];
  }

  private static boolean out(int n, int below) {
    return n < 0 || n >= below;
  }

  private static boolean near(int a, int b) {
    int across = Math.abs(a % 5 - b % 5);
    int down = Math.abs(a / 5 - b / 5);
    return across + down == 1;
  }

  private static int towards(int cell, int side) {
    int x = cell % 5 + new int[] {0, 1, 0, -1}[side];
    int y = cell / 5 + new int[] {-1, 0, 1, 0}[side];
    return out(x, 5) || out(y, 4) ? -1 : 5 * y + x;
  }

  private void walk(int from) {
    for (int c = 0; c < 20; c++) {
      time[c] = FAR;
      toilTo[c] = FAR;
      toilBetween[c] = FAR;
    }
    walk(from, 1 << from, 0, 0, 0, 0);
  }

  private void walk(int at, int seen, int sumTime, int sumLost, int sumToil, int lastToil) {
    if (sumTime < time[at]) {
      time[at] = sumTime;
      lost[at] = sumLost;
      number[at] = 1;
    } else if (sumTime == time[at]) {
      lost[at] = Math.min(lost[at], sumLost);
      number[at]++;
    }
    toilTo[at] = Math.min(toilTo[at], sumToil);
    toilBetween[at] = Math.min(toilBetween[at], sumToil - lastToil);
    for (int side = 0; side < 4; side++) {
      int to = towards(at, side);
      if (to >= 0 && (seen >> to & 1) == 0) {
        int own = toil(kind[to], figure[to]);
        walk(to, seen | 1 << to, sumTime + slow(kind[to], figure[to]),
            sumLost + loss(kind[to], figure[to]), sumToil + own, own);
      }
    }
  }

  int mountain(int d) {
    int no = noRow(d, 0);
    if (no != 0) {
      return no;
    }
    StringBuilder shape = new StringBuilder();
    for (int b : row[d]) {
      shape.append(b >= '0' && b <= '9' ? '#' : b > 0 ? (char) b : '?');
    }
    // The longest beginning that some MOUNTAIN has.
    String text = shape.toString();
    int good = 0;
    String rest = text;
    boolean whole = false;
    while (!rest.isEmpty()) {
      int most = 0;
      whole = false;
      for (String one : new String[] {"k####;", "g###;", "d##;"}) {
        int same = 0;
        while (same < one.length() && same < rest.length() && one.charAt(same) == rest.charAt(same)) {
          same++;
        }
        most = Math.max(most, same);
        whole = whole || same == one.length();
      }
      good += most;
      rest = rest.substring(most);
      if (!whole) {
        break;
      }
    }
    if (!whole) {
      return -1000 - good;
    }
    Model m = copied();
    int many = 0;
    for (int i = 0; i < row[d].length; i = text.indexOf(';', i) + 1) {
      int[] n = new int[5];
      for (int j = 1; j < 5 && i + j < row[d].length; j++) {
        n[j] = row[d][i + j] - '0';
      }
      boolean done;
      if (row[d][i] == 'k') {
        int c = 10 * n[1] + n[2];
        done = c < 20 && n[3] < 8;
        if (done) {
          m.kind[c] = n[3];
          m.figure[c] = n[4];
        }
      } else if (row[d][i] == 'g') {
        int c = 10 * n[2] + n[3];
        done = c < 20 && n[1] < 2;
        if (done) {
          m.place[n[1]] = c;
        }
      } else {
        done = m.dig(n[1], n[2]) >= 0;
      }
      if (!done) {
        return -2000 - i;
      }
      many++;
    }
    become(m);
    return many;
  }

  int cell(int c, int what) {
    if (out(c, 20) || out(what, 5)) {
      return -1;
    }
    int k = kind[c];
    int f = figure[c];
    return new int[] {k, f, slow(k, f), loss(k, f), toil(k, f)}[what];
  }

  int lay(int d, int c) {
    if (out(d, 8) || out(c, 20)) {
      return -1;
    }
    if (held[d] != ROCK) {
      return held[d] == 0 ? -11 : -12;
    }
    int before = kind[c];
    kind[c] = rockKind[d];
    figure[c] = rockFigure[d];
    return before;
  }

  int gang(int g, int what) {
    return out(g, 2) || out(what, 2) ? -1 : what == 0 ? place[g] : hours[g];
  }

  int dig(int g, int side) {
    if (out(g, 2) || out(side, 4)) {
      return -1;
    }
    int to = towards(place[g], side);
    if (to < 0) {
      return -3;
    }
    int t = toil(kind[to], figure[to]);
    place[g] = to;
    hours[g] += t;
    kind[to] = 7;
    figure[to] = 0;
    return t;
  }

  int met() {
    return place[0] == place[1] || near(place[0], place[1]) ? 1 : 0;
  }

  int time(int from, int to) {
    if (out(from, 20) || out(to, 20)) {
      return -1;
    }
    walk(from);
    return time[to];
  }

  int loud(int from, int to, int was) {
    if (out(from, 20) || out(to, 20) || out(was, 100)) {
      return -1;
    }
    walk(from);
    return was < lost[to] ? 0 : was - lost[to];
  }

  int paths(int from, int to) {
    if (out(from, 20) || out(to, 20)) {
      return -1;
    }
    walk(from);
    return number[to];
  }

  int reaches(int from, int was) {
    if (out(from, 20) || out(was, 100) || was == 0) {
      return -1;
    }
    walk(from);
    int set = 0;
    for (int c = 0; c < 20; c++) {
      set += was - lost[c] >= 1 ? 1 << c : 0;
    }
    return set;
  }

  int from(int d, int what) {
    if (out(what, 2)) {
      return -1;
    }
    int no = noRow(d, 2);
    if (no != 0) {
      return no;
    }
    if (row[d].length % 2 == 1) {
      return -13;
    }
    for (int i = 0; i < row[d].length; i += 2) {
      if (out(row[d][i], 20)) {
        return -13;
      }
    }
    int many = 0;
    int least = -4;
    for (int c = 0; c < 20; c++) {
      walk(c);
      boolean one = true;
      for (int i = 0; i < row[d].length; i += 2) {
        long mine = (long) row[d][i + 1] - time[row[d][i]];
        long first = (long) row[d][1] - time[row[d][0]];
        one = one && mine == first;
      }
      if (one) {
        least = many == 0 ? c : least;
        many++;
      }
    }
    return what == 0 ? many : least;
  }

  int listen(int d, int what) {
    if (out(what, 2)) {
      return -1;
    }
    int no = noRow(d, 0);
    if (no != 0) {
      return no;
    }
    if (row[d].length > 20) {
      return -13;
    }
    for (int c : row[d]) {
      if (out(c, 20)) {
        return -13;
      }
    }
    if (row[d].length == 0) {
      return -4;
    }
    int[][] heard = new int[20][1000];
    for (int c : row[d]) {
      walk(c);
      for (int at = 0; at < 20; at++) {
        heard[at][time[at]]++;
      }
    }
    int best = -1;
    int least = FAR;
    for (int at = 0; at < 20; at++) {
      int most = 0;
      for (int many : heard[at]) {
        most = Math.max(most, many);
      }
      if (most < least) {
        least = most;
        best = at;
      }
    }
    return what == 0 ? best : least;
  }

  int rocks(int c, int f, int from, int to, int told) {
    if (out(c, 20) || out(f, 10) || out(from, 20) || out(to, 20)) {
      return -1;
    }
    int set = 0;
    for (int k = 0; k < 8; k++) {
      Model m = copied();
      m.kind[c] = k;
      m.figure[c] = f;
      set |= m.time(from, to) == told ? 1 << k : 0;
    }
    return set;
  }

  int toils() {
    walk(place[0]);
    return toilBetween[place[1]];
  }

  int soon() {
    if (met() == 1) {
      return 0;
    }
    walk(place[0]);
    int[] one = toilTo.clone();
    walk(place[1]);
    int least = FAR;
    for (int u = 0; u < 20; u++) {
      for (int v = 0; v < 20; v++) {
        if (near(u, v)) {
          least = Math.min(least, Math.max(one[u], toilTo[v]));
        }
      }
    }
    return least;
  }

  int side(int g, int what) {
    if (out(g, 2) || out(what, 2)) {
      return -1;
    }
    int best = -1;
    int least = FAR;
    for (int side = 3; side >= 0; side--) {
      Model m = copied();
      if (m.dig(g, side) >= 0 && m.soon() <= least) {
        least = m.soon();
        best = side;
      }
    }
    return what == 0 ? best : least;
  }

  int taken(int one, int other, int e) {
    if (out(one, 256) || out(other, 256) || out(e, 9)) {
      return -1;
    }
    int more = 0;
    int less = 0;
    for (int bit = 1; bit < 256; bit *= 2) {
      more += one / bit % 2 > other / bit % 2 ? 1 : 0;
      less += one / bit % 2 < other / bit % 2 ? 1 : 0;
    }
    return more <= e && less <= e ? 1 : 0;
  }

  int safe(int d, int e, int what) {
    if (out(e, 9) || out(what, 2)) {
      return -1;
    }
    int no = noRow(d, 0);
    if (no != 0) {
      return no;
    }
    int n = row[d].length;
    if (n > 8) {
      return -13;
    }
    for (int many = n; many > 0; many--) {
      for (int set = 0; set < 256; set++) {
        if (Integer.bitCount(set) == many && set < 1 << n && isSafe(row[d], set, e)) {
          return what == 0 ? set : many;
        }
      }
    }
    return 0;
  }

  private boolean isSafe(int[] codes, int set, int e) {
    for (int i = 0; i < codes.length; i++) {
      for (int j = 0; j < codes.length; j++) {
        boolean both = i != j && (set >> i & 1) == 1 && (set >> j & 1) == 1;
        if (both && taken((codes[i] + 256) % 256, (codes[j] + 256) % 256, e) == 1) {
          return false;
        }
      }
    }
    return true;
  }

  int seeded(int n, int z, int what) {
    if (n < 1 || n > 40 || out(what, 2)) {
      return -1;
    }
    Model m = copied();
    int first = m.met() == 1 ? 0 : -4;
    long seed = z;
    for (int i = 1; i <= n; i++) {
      int[] drawn = new int[2];
      for (int j = 0; j < 2; j++) {
        seed = (int) (seed * 1103515245 + 12345);
        long bare = seed < 0 ? seed + 2147483648L : seed;
        drawn[j] = (int) (bare / 65536 % (j == 0 ? 2 : 4));
      }
      m.dig(drawn[0], drawn[1]);
      first = first == -4 && m.met() == 1 ? i : first;
    }
    return what == 0 ? m.hours[0] + m.hours[1] : first;
  }

  int judge(int d) {
    int no = noRow(d, -1);
    if (no != 0) {
      return no;
    }
    Model m = copied();
    for (int i = 0; i < row[d].length; i += 3) {
      if (row[d].length - i < 3) {
        return i;
      }
      if (row[d][i] != 0 && row[d][i] != 1) {
        return i;
      }
      if (m.dig(row[d][i], row[d][i + 1]) < 0) {
        return i + 1;
      }
      if (m.hours[row[d][i]] != row[d][i + 2]) {
        return i + 2;
      }
    }
    return -4;
  }

  int image() {
    image = copied();
    return hours[0] + hours[1];
  }

  int restore() {
    if (image == null) {
      return -3;
    }
    become(image);
    return hours[0] + hours[1];
  }

  int count(int what) {
    if (out(what, 10)) {
      return -1;
    }
    int[] sums = new int[10];
    for (int c = 0; c < 20; c++) {
      sums[kind[c]]++;
      sums[8] += slow(kind[c], figure[c]);
      sums[9] += toil(kind[c], figure[c]);
    }
    return sums[what];
  }

  int keep(int d, int what, int k, int f) {
    if (out(d, 8) || out(what, 2) || what == 1 && (out(k, 8) || out(f, 10))) {
      return -1;
    }
    held[d] = what == 0 ? 0 : ROCK;
    rockKind[d] = k;
    rockFigure[d] = f;
    return 0;
  }

  int row(int d, int sort, int n) {
    if (out(d, 8) || out(sort, 3) || n > 100) {
      return -1;
    }
    if (n < 0) {
      return -14;
    }
    held[d] = ROW + sort;
    row[d] = new int[n];
    return 0;
  }

  private int noRow(int d, int sort) {
    if (out(d, 8)) {
      return -1;
    }
    if (held[d] == 0) {
      return -11;
    }
    return held[d] == ROCK || sort >= 0 && held[d] != ROW + sort ? -12 : 0;
  }

  int put(int d, int i, int v) {
    int no = noRow(d, -1);
    if (no != 0) {
      return no;
    }
    if (out(i, row[d].length)) {
      return -13;
    }
    row[d][i] = held[d] == ROW ? (byte) v : held[d] == ROW + 1 ? (short) v : v;
    return 0;
  }

  /** The thrown ones are told beyond what an int can be. */
  long element(int d, int i) {
    if (out(d, 8)) {
      return 1L << 40;
    }
    return noRow(d, -1) != 0 || out(i, row[d].length) ? 1L << 41 : row[d][i];
  }

  int copy(int d, int i, int e, int j, int n) {
    if (out(d, 8) || out(e, 8)) {
      return -1;
    }
    if (held[d] == 0 || held[e] == 0) {
      return -11;
    }
    if (held[d] == ROCK || held[d] != held[e]) {
      return -12;
    }
    if (n < 0 || i < 0 || j < 0 || (long) i + n > row[d].length || (long) j + n > row[e].length) {
      return -13;
    }
    int[] before = row[d].clone();
    for (int k = 0; k < n; k++) {
      row[e][j + k] = before[i + k];
    }
    return n;
  }

  int pay(int d) {
    if (out(d, 8)) {
      return -1;
    }
    return held[d] == ROCK ? payOf(rockKind[d], rockFigure[d]) : held[d] == 0 ? -11 : -12;
  }

  int toss(int d) {
    int p = pay(d);
    if (out(d, 8) || held[d] != ROCK) {
      return p;
    }
    int k = rockKind[d];
    int f = rockFigure[d];
    return f == 0 || k == 7 ? -15 : k == 3 ? 100 + f : k == 4 ? 200 + p : f;
  }
}
