/**
 * The edges that "Terms" name, each by itself: where CELLS end, where numbers are cut or end at 0,
 * what is so for a CELL and itself, which of several is told.
 */
public final class TermsTest {
  private static final int FULL = (1 << 20) - 1;

  public static void main(String[] args) {
    neighboursOfEveryCell();
    gangsMetInEveryTwoCells();
    waysThroughRockAlone();
    waysToItsOwnCell();
    toMeetThroughRockAlone();
    halfOfClayIsCut();
    lossIsZeroAtLeast();
    heardZeroAtLeast();
    figureCountsWhereItIsTold();
    payOfEachKind();
    payBelowZero();
    failures();
    dugWithFigureZero();
    theFirstCellOfAWayIsNotCounted();
    theLastCellOfAWayIsNotToiled();
    leastLostOfTheFastestWays();
    Due.end();
  }

  /** The document's four rows of five, drawn here; -3 where a side has none. */
  private static void neighboursOfEveryCell() {
    int[][] sides = {
      {-3, -3, -3, -3, -3, 0, 1, 2, 3, 4, 5, 6, 7, 8, 9, 10, 11, 12, 13, 14},
      {1, 2, 3, 4, -3, 6, 7, 8, 9, -3, 11, 12, 13, 14, -3, 16, 17, 18, 19, -3},
      {5, 6, 7, 8, 9, 10, 11, 12, 13, 14, 15, 16, 17, 18, 19, -3, -3, -3, -3, -3},
      {-3, 0, 1, 2, 3, -3, 5, 6, 7, 8, -3, 10, 11, 12, 13, -3, 15, 16, 17, 18},
    };
    for (int cell = 0; cell < 20; cell++) {
      for (int side = 0; side < 4; side++) {
        for (int gang = 0; gang < 2; gang++) {
          towards(cell, side, gang, sides[side][cell]);
        }
      }
    }
  }

  private static void towards(int cell, int side, int gang, int to) {
    boolean isThere = to >= 0;
    String text = "g" + gang + cell / 10 + cell % 10 + ";";
    String which = "gang " + gang + " in " + cell + " towards " + side;
    KnocksThroughRock x = Due.mountain(text);
    Due.row(x, 0, 1, gang, side, 5);
    Due.is("judge: " + which, x.judge(0), isThere ? -4 : 1);
    Due.is("dig: " + which, x.dig(gang, side), isThere ? 5 : -3);
    Due.is("where it is: " + which, x.gang(gang, 0), isThere ? to : cell);
    Due.is("its hours: " + which, x.gang(gang, 1), isThere ? 5 : 0);
    Due.is("what is dug: " + which, x.count(7), isThere ? 1 : 0);
    if (isThere) {
      Due.is("it is dug there: " + which, x.cell(to, 0), Due.DUG);
    }
    Due.reads(new KnocksThroughRock(), text + "d" + gang + side + ";", isThere ? 2 : -2005);
    KnocksThroughRock y = Due.mountain(text);
    Due.is("time to a neighbour: " + which, isThere ? y.time(cell, to) : 4, 4);
  }

  private static void gangsMetInEveryTwoCells() {
    for (int a = 0; a < 20; a++) {
      for (int b = 0; b < 20; b++) {
        KnocksThroughRock x = gangsIn(a, b);
        Due.is("met in " + a + " and " + b, x.met(), steps(a, b) <= 1 ? 1 : 0);
        Due.is("seeded, met now in " + a + " and " + b, x.seeded(1, 0, 1) == 0 ? 1 : 0, steps(a, b) <= 1 ? 1 : 0);
      }
    }
  }

  private static KnocksThroughRock gangsIn(int a, int b) {
    return Due.mountain("g0" + a / 10 + a % 10 + ";g1" + b / 10 + b % 10 + ";");
  }

  private static int steps(int a, int b) {
    return Math.abs(a % 5 - b % 5) + Math.abs(a / 5 - b / 5);
  }

  /** Through ROCK alone each step takes 4 and loses 2, and the fastest ways turn back nowhere. */
  private static void waysThroughRockAlone() {
    for (int a = 0; a < 20; a++) {
      KnocksThroughRock x = new KnocksThroughRock();
      int[] reached = new int[100];
      for (int b = 0; b < 20; b++) {
        int n = steps(a, b);
        Due.is("time from " + a + " to " + b, x.time(a, b), 4 * n);
        Due.is("loud from " + a + " to " + b, x.loud(a, b, 99), 99 - 2 * n);
        Due.is("just not heard from " + a + " to " + b, x.loud(a, b, 2 * n), 0);
        Due.is("just heard from " + a + " to " + b, x.loud(a, b, 2 * n + 1), 1);
        Due.is("paths from " + a + " to " + b, x.paths(a, b), choose(n, Math.abs(a % 5 - b % 5)));
        for (int was = 2 * n + 1; was < 100; was++) {
          reached[was] |= 1 << b;
        }
      }
      for (int was = 1; was < 100; was++) {
        Due.is("reaches(" + a + ", " + was + ")", x.reaches(a, was), reached[was]);
      }
      Due.is("reaches all from " + a, x.reaches(a, 99), FULL);
      Due.is("reaches itself alone from " + a, x.reaches(a, 2), 1 << a);
    }
  }

  private static int choose(int n, int k) {
    int many = 1;
    for (int i = 1; i <= k; i++) {
      many = many * (n - k + i) / i;
    }
    return many;
  }

  /** "0 to its own CELL", "1 to its own CELL", and nothing is lost: of whatever kind it is. */
  private static void waysToItsOwnCell() {
    for (int kind = 0; kind < 8; kind++) {
      KnocksThroughRock x = new KnocksThroughRock();
      x.keep(0, 1, kind, 9);
      x.lay(0, 6);
      Due.is("time to itself, kind " + kind, x.time(6, 6), 0);
      Due.is("paths to itself, kind " + kind, x.paths(6, 6), 1);
      Due.is("loud at itself, kind " + kind, x.loud(6, 6, 99), 99);
      Due.is("one part at itself, kind " + kind, x.loud(6, 6, 1), 1);
      Due.is("no part at itself, kind " + kind, x.loud(6, 6, 0), 0);
      Due.is("rocks to itself, kind " + kind, x.rocks(6, 9, 6, 6, 0), 255);
    }
  }

  /** Between the gangs lie so many cells less one: half of them each, the greater half counts. */
  private static void toMeetThroughRockAlone() {
    for (int a = 0; a < 20; a++) {
      for (int b = 0; b < 20; b++) {
        KnocksThroughRock x = gangsIn(a, b);
        int between = Math.max(0, steps(a, b) - 1);
        Due.is("toils from " + a + " to " + b, x.toils(), 5 * between);
        Due.is("soon from " + a + " to " + b, x.soon(), 5 * ((between + 1) / 2));
        // With one DIG towards the other one there is one CELL less between them, if there is one.
        int after = Math.max(0, between - 1);
        Due.is("side of gang 0 in " + a + ", 1 in " + b, x.side(0, 1), 5 * ((after + 1) / 2));
        Due.is("side of gang 1 in " + b + ", 0 in " + a, x.side(1, 1), 5 * ((after + 1) / 2));
        Due.is("which side of gang 0 in " + a + ", 1 in " + b, x.side(0, 0), firstSide(a, b));
        Due.is("which side of gang 1 in " + b + ", 0 in " + a, x.side(1, 0), firstSide(b, a));
      }
    }
  }

  /**
   * The first side that leaves the gangs as near as can be, counted by halves: of an odd number of
   * cells between them one less, and one more, is another half.
   */
  private static int firstSide(int a, int b) {
    int[] across = {0, 1, 0, -1};
    int[] down = {-1, 0, 1, 0};
    int best = -1;
    int least = 99;
    for (int side = 0; side < 4; side++) {
      int x = a % 5 + across[side];
      int y = a / 5 + down[side];
      if (x >= 0 && x < 5 && y >= 0 && y < 4) {
        int between = Math.max(0, steps(5 * y + x, b) - 1);
        if ((between + 1) / 2 < least) {
          least = (between + 1) / 2;
          best = side;
        }
      }
    }
    return best;
  }

  /** "WATER half of a CLAY's, cut": 4 and FIGURE, halved. */
  private static void halfOfClayIsCut() {
    int[] slow = {2, 2, 3, 3, 4, 4, 5, 5, 6, 6};
    for (int f = 0; f < 10; f++) {
      KnocksThroughRock x = Due.mountain("k013" + f + ";");
      Due.is("SLOW of WATER " + f, x.cell(1, 2), slow[f]);
      Due.is("time into WATER " + f, x.time(0, 1), slow[f]);
    }
  }

  /** "WATER a CLAY's less FIGURE, 0 at least": 5 less FIGURE. */
  private static void lossIsZeroAtLeast() {
    int[] loss = {5, 4, 3, 2, 1, 0, 0, 0, 0, 0};
    for (int f = 0; f < 10; f++) {
      KnocksThroughRock x = Due.mountain("k013" + f + ";");
      Due.is("LOSS of WATER " + f, x.cell(1, 3), loss[f]);
      Due.is("loud through WATER " + f, x.loud(0, 1, 9), 9 - loss[f]);
    }
  }

  private static void heardZeroAtLeast() {
    KnocksThroughRock x = Due.mountain("k0169;");
    Due.is("a FAULT of FIGURE 9 loses 14: 15 are heard", x.loud(0, 1, 15), 1);
    Due.is("14 are not", x.loud(0, 1, 14), 0);
    Due.is("13 are not", x.loud(0, 1, 13), 0);
    Due.is("0 are not", x.loud(0, 1, 0), 0);
    Due.is("reaches with 14", x.reaches(0, 14) >> 1 & 1, 0);
    Due.is("reaches with 15", x.reaches(0, 15) >> 1 & 1, 1);
  }

  /** The kinds whose numbers hold FIGURE in the order told, and those whose do not. */
  private static void figureCountsWhereItIsTold() {
    int[][] least = {{4, 2, 5}, {2, 1, 10}, {4, 5, 3}, {2, 5, 3}, {3, 0, 10}, {1, 2, 1}, {8, 5, 7}, {1, 1, 0}};
    int[][] most = {{4, 2, 5}, {2, 1, 10}, {13, 5, 3}, {6, 0, 30}, {3, 0, 19}, {1, 2, 1}, {26, 14, 7}, {1, 1, 0}};
    for (int kind = 0; kind < 8; kind++) {
      KnocksThroughRock x = Due.mountain("k00" + kind + "0;k19" + kind + "9;");
      for (int what = 0; what < 3; what++) {
        Due.is("kind " + kind + ", FIGURE 0, " + what, x.cell(0, what + 2), least[kind][what]);
        Due.is("kind " + kind + ", FIGURE 9, " + what, x.cell(19, what + 2), most[kind][what]);
      }
    }
  }

  private static void payOfEachKind() {
    int[] least = {3, 3, 2, 4, 3, 3, 7, 3};
    int[] most = {3, 12, 2, 4, 120, 3, 7, -6};
    for (int kind = 0; kind < 8; kind++) {
      KnocksThroughRock x = new KnocksThroughRock();
      x.keep(0, 1, kind, 0);
      x.keep(1, 1, kind, 9);
      Due.is("PAY of kind " + kind + ", FIGURE 0", x.pay(0), least[kind]);
      Due.is("PAY of kind " + kind + ", FIGURE 9", x.pay(1), most[kind]);
    }
  }

  /** "DUG a HOLLOW's less FIGURE": nothing keeps it from being below 0, nor from being -1. */
  private static void payBelowZero() {
    int[] pay = {3, 2, 1, 0, -1, -2, -3, -4, -5, -6};
    for (int f = 0; f < 10; f++) {
      KnocksThroughRock x = new KnocksThroughRock();
      x.keep(0, 1, Due.DUG, f);
      Due.is("PAY of what is DUG, FIGURE " + f, x.pay(0), pay[f]);
      Due.is("it has no FAILURE, FIGURE " + f, x.toss(0), -15);
    }
  }

  private static void failures() {
    int[] one = {1, 1, 1, 101, 200 + 8, 1, 1, -15};
    int[] nine = {9, 9, 9, 109, 200 + 120, 9, 9, -15};
    for (int kind = 0; kind < 8; kind++) {
      KnocksThroughRock x = new KnocksThroughRock();
      x.keep(0, 1, kind, 0);
      Due.is("FIGURE 0 has no FAILURE, kind " + kind, x.toss(0), -15);
      x.keep(0, 1, kind, 1);
      Due.is("FAILURE of FIGURE 1, kind " + kind, x.toss(0), one[kind]);
      x.keep(0, 1, kind, 9);
      Due.is("FAILURE of FIGURE 9, kind " + kind, x.toss(0), nine[kind]);
    }
  }

  /** "It is DUG with FIGURE 0", also what was DUG with another FIGURE; TOIL is told of it before. */
  private static void dugWithFigureZero() {
    int[] toil = {5, 10, 3, 30, 19, 1, 7, 0};
    for (int kind = 0; kind < 8; kind++) {
      KnocksThroughRock x = Due.mountain("k01" + kind + "9;");
      Due.is("TOIL of kind " + kind, x.dig(0, 1), toil[kind]);
      Due.is("hours of kind " + kind, x.gang(0, 1), toil[kind]);
      Due.is("it is DUG, kind " + kind, x.cell(1, 0) * 10 + x.cell(1, 1), 70);
      Due.is("where it came from is not, kind " + kind, x.cell(0, 0), Due.ROCK);
      Due.is("back", x.dig(0, 3), 5);
      Due.is("no TOIL any more, kind " + kind, x.dig(0, 1), 0);
    }
  }

  private static void theFirstCellOfAWayIsNotCounted() {
    KnocksThroughRock x = Due.mountain("k0069;k0149;");
    Due.is("out of a FAULT into a VEIN", x.time(0, 1), 3);
    Due.is("out of a VEIN into a FAULT", x.time(1, 0), 26);
    Due.is("LOST out of a FAULT", x.loud(0, 1, 20), 20);
    Due.is("LOST into a FAULT", x.loud(1, 0, 20), 6);
  }

  /** TOILS leaves out both ends, SOON only the first of each way. */
  private static void theLastCellOfAWayIsNotToiled() {
    KnocksThroughRock x = Due.mountain("g000;g102;k0039;k0239;");
    Due.is("TOILS between WATERS", x.toils(), 5);
    Due.is("SOON between WATERS", x.soon(), 5);
    Due.is("TOILS to a NEIGHBOUR", Due.mountain("g000;g101;k0139;k0039;").toils(), 0);
    Due.is("TOILS in one cell", Due.mountain("g000;g100;k0039;").toils(), 0);
    Due.is("SOON of NEIGHBOURS", Due.mountain("g000;g101;k0139;k0039;").soon(), 0);
    Due.is("SOON in one cell", Due.mountain("g000;g100;k0039;").soon(), 0);
  }

  /** Of two ways of one TIME the one that loses less; a slower one that loses nothing does not count. */
  private static void leastLostOfTheFastestWays() {
    Due.is("1 GRANITE, 5 WATER 0", Due.mountain("k0110;k0530;").loud(0, 6, 9), 9 - 3);
    Due.is("1 WATER 0, 5 GRANITE", Due.mountain("k0130;k0510;").loud(0, 6, 9), 9 - 3);
    Due.is("1 GRANITE, 5 WATER 1", Due.mountain("k0110;k0531;").loud(0, 6, 9), 9 - 3);
    Due.is("1 VEIN, 5 WATER 2", Due.mountain("k0140;k0532;").loud(0, 6, 9), 9 - 2);
    Due.is("1 VEIN is slower than 5 WATER 1", Due.mountain("k0140;k0531;").loud(0, 6, 9), 9 - 6);
  }
}
