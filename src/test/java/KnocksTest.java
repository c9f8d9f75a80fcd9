/** Promises 8 to 14: time, loud, paths, reaches, from, listen, rocks. */
public final class KnocksTest {
  public static void main(String[] args) {
    times();
    louds();
    paths();
    reaches();
    froms();
    listens();
    rocks();
    wrongCells();
    Due.end();
  }

  private static void times() {
    KnocksThroughRock x = new KnocksThroughRock();
    Due.is("time through ROCK", x.time(0, 19), 28);
    Due.is("time to its own cell", x.time(7, 7), 0);
    Due.is("time over the edge", x.time(4, 5), 20);
    KnocksThroughRock y = Due.mountain("k0025;k0169;k0550;k0650;k0250;k0750;");
    Due.is("the first cell is not counted", y.time(0, 5), 1);
    Due.is("the last cell is", y.time(5, 0), 9);
    Due.is("round a FAULT", y.time(0, 2), 4);
    Due.is("into a FAULT", y.time(0, 1), 26);
    y.dig(0, 1);
    Due.is("through what is dug", y.time(0, 2), 2);
  }

  private static void louds() {
    KnocksThroughRock x = new KnocksThroughRock();
    Due.is("loud through ROCK", x.loud(0, 19, 50), 36);
    Due.is("loud at its own cell", x.loud(3, 3, 99), 99);
    Due.is("loud 0", x.loud(3, 3, 0), 0);
    Due.is("just heard", x.loud(0, 19, 15), 1);
    Due.is("just not", x.loud(0, 19, 14), 0);
    Due.is("0 at least", x.loud(0, 19, 13), 0);
    Due.is("so loud is too loud", x.loud(0, 0, 100), -1);
    Due.is("below 0", x.loud(0, 0, -1), -1);
    KnocksThroughRock oneTime = Due.mountain("k0110;k0530;");
    Due.is("GRANITE and WATER have one SLOW", oneTime.paths(0, 6), 2);
    Due.is("the least LOST of the ways of the least TIME", oneTime.loud(0, 6, 50), 47);
    Due.is("though the other way is met first", Due.mountain("k0130;k0510;").loud(0, 6, 50), 47);
    KnocksThroughRock otherTime = Due.mountain("k0140;k0510;");
    Due.is("GRANITE is faster than a VEIN", otherTime.time(0, 6), 6);
    Due.is("by one way", otherTime.paths(0, 6), 1);
    Due.is("though more is lost there", otherTime.loud(0, 6, 50), 47);
    KnocksThroughRock noLoss = Due.mountain("k0140;k0235;");
    Due.is("WATER of FIGURE 5 and a VEIN lose nothing", noLoss.loud(0, 2, 9), 9);
    Due.is("the first cell loses nothing", Due.mountain("k0069;").loud(0, 1, 9), 7);
    Due.is("the last one does", Due.mountain("k0069;").loud(1, 0, 30), 16);
  }

  private static void paths() {
    KnocksThroughRock x = new KnocksThroughRock();
    Due.is("paths over the whole", x.paths(0, 19), 35);
    Due.is("paths over the whole, the other corners", x.paths(15, 4), 35);
    Due.is("paths to its own cell", x.paths(9, 9), 1);
    Due.is("paths to a neighbour", x.paths(9, 8), 1);
    Due.is("paths over a corner", x.paths(0, 6), 2);
    Due.is("paths along an edge", x.paths(0, 4), 1);
    KnocksThroughRock y = Due.mountain("k0269;k0650;k0550;k0750;k0850;k0350;k0170;");
    Due.is("round a FAULT, by 1 or 5, then 6, 7, 8", y.time(0, 3), 5);
    Due.is("its paths", y.paths(0, 3), 2);
    KnocksThroughRock z = Due.mountain("k0150;k0550;k0650;k0750;k1150;k0210;k1010;");
    Due.is("1 6 7 and 5 6 7, but not 1 2 7", z.paths(0, 7), 2);
  }

  private static void reaches() {
    KnocksThroughRock x = new KnocksThroughRock();
    Due.is("reaches(0, 5)", x.reaches(0, 5), bits(0, 1, 2, 5, 6, 10));
    Due.is("reaches(0, 4): one part at least", x.reaches(0, 4), bits(0, 1, 5));
    Due.is("reaches(0, 3)", x.reaches(0, 3), bits(0, 1, 5));
    Due.is("reaches(0, 1)", x.reaches(0, 1), bits(0));
    Due.is("reaches(19, 2)", x.reaches(19, 2), bits(19));
    Due.is("reaches(19, 99)", x.reaches(19, 99), (1 << 20) - 1);
    Due.is("reaches(0, 0)", x.reaches(0, 0), -1);
    Due.is("reaches(0, 100)", x.reaches(0, 100), -1);
    Due.is("reaches(20, 9)", x.reaches(20, 9), -1);
    Due.is("reaches(-1, 9)", x.reaches(-1, 9), -1);
    Due.is("reaches by VEINS", Due.mountain("k0140;k0240;k0340;").reaches(0, 1), bits(0, 1, 2, 3));
  }

  private static void froms() {
    KnocksThroughRock x = new KnocksThroughRock();
    from(x, 20, 0);
    from(x, 20, 0, 19, -7);
    from(x, 4, 2, 0, 10, 4, 10);
    from(x, 1, 6, 1, 14, 5, 14, 7, 14, 11, 14);
    from(x, 4, 0, 0, 10, 4, 26, 0, 10);
    from(x, 0, -4, 0, 10, 4, 11);
    from(x, 0, -4, 0, 10, 0, 11);
    from(x, 1, 0, 0, -3, 1, 1, 5, 1);
    KnocksThroughRock oneWay = Due.mountain("k0169;");
    from(oneWay, 1, 0, 0, 100, 1, 126, 5, 104, 19, 128);
    KnocksThroughRock edge = Due.mountain("k0140;");
    from(edge, 0, -4, 5, Integer.MIN_VALUE, 1, Integer.MAX_VALUE);
    from(edge, 0, -4, 1, Integer.MAX_VALUE, 5, Integer.MIN_VALUE);
    from(edge, 1, 7, 7, Integer.MAX_VALUE - 4, 8, Integer.MAX_VALUE, 12, Integer.MAX_VALUE,
        2, Integer.MAX_VALUE, 6, Integer.MAX_VALUE);

    KnocksThroughRock y = new KnocksThroughRock();
    Due.is("from(8, 0)", y.from(8, 0), -1);
    Due.is("from(-1, 0)", y.from(-1, 0), -1);
    Due.is("from(0, 2)", y.from(0, 2), -1);
    Due.is("from(0, -1)", y.from(0, -1), -1);
    Due.is("from of nothing", y.from(0, 0), -11);
    y.keep(0, 1, 0, 0);
    Due.is("from of a ROCK", y.from(0, 0), -12);
    y.row(0, 0, 2);
    Due.is("from of bytes", y.from(0, 0), -12);
    y.row(0, 1, 2);
    Due.is("from of shorts", y.from(0, 0), -12);
    y.row(0, 2, 3);
    Due.is("from of an odd size", y.from(0, 1), -13);
    Due.row(y, 0, 2, 0, 5, 20, 5);
    Due.is("from of cell 20", y.from(0, 0), -13);
    Due.row(y, 0, 2, -1, 5);
    Due.is("from of cell -1", y.from(0, 0), -13);
    Due.row(y, 0, 2, Integer.MIN_VALUE, 5);
    Due.is("from of the least int", y.from(0, 1), -13);
    y.row(0, 2, 100);
    Due.is("from of 100 elements", y.from(0, 0), 20);
    y.put(0, 99, 1);
    Due.is("from of 100 elements, the last one other", y.from(0, 0), 0);
    Due.is("the ROW stays", y.element(0, 99), 1);
  }

  private static void from(KnocksThroughRock x, int many, int least, int... row) {
    Due.row(x, 6, 2, row);
    Due.is("how many", x.from(6, 0), many);
    Due.is("the least", x.from(6, 1), least);
  }

  private static void listens() {
    KnocksThroughRock x = new KnocksThroughRock();
    listen(x, 0, 1, 0, 1);
    listen(x, 0, 1, 19);
    listen(x, 0, 2, 0, 0);
    listen(x, 1, 1, 1, 5);
    listen(x, 1, 1, 0, 1, 5);
    listen(x, 0, 3, 4, 4, 3, 4);
    // All TIMES to 0 are 4 times the steps: 0; 1 5; 2 6 10; .. there are four cells three steps on.
    listen(x, 0, 4, 0, 1, 2, 3, 4, 5, 6, 7, 8, 9, 10, 11, 12, 13, 14, 15, 16, 17, 18, 19);
    listen(Due.mountain("k0123;"), 1, 1, 1, 5);
    Due.is("an empty ROW", x.row(6, 0, 0), 0);
    Due.is("an empty ROW: the cell", x.listen(6, 0), -4);
    Due.is("an empty ROW: the number", x.listen(6, 1), -4);

    KnocksThroughRock y = new KnocksThroughRock();
    Due.is("listen(8, 0)", y.listen(8, 0), -1);
    Due.is("listen(-1, 0)", y.listen(-1, 0), -1);
    Due.is("listen(0, 2)", y.listen(0, 2), -1);
    Due.is("listen(0, -1)", y.listen(0, -1), -1);
    Due.is("listen of nothing", y.listen(0, 0), -11);
    y.keep(0, 1, 0, 0);
    Due.is("listen of a ROCK", y.listen(0, 0), -12);
    y.row(0, 2, 2);
    Due.is("listen of ints", y.listen(0, 0), -12);
    y.row(0, 1, 2);
    Due.is("listen of shorts", y.listen(0, 0), -12);
    y.row(0, 0, 21);
    Due.is("listen of 21", y.listen(0, 0), -13);
    y.row(0, 0, 20);
    Due.is("listen of 20", y.listen(0, 1), 20);
    y.put(0, 19, 20);
    Due.is("listen to cell 20", y.listen(0, 1), -13);
    y.put(0, 19, -1);
    Due.is("listen to cell -1", y.listen(0, 0), -13);
    y.put(0, 19, 256 + 19);
    Due.is("listen to cell 19", y.listen(0, 1), 19);
  }

  private static void listen(KnocksThroughRock x, int cell, int number, int... row) {
    Due.row(x, 6, 0, row);
    Due.is("where to listen", x.listen(6, 0), cell);
    Due.is("the number", x.listen(6, 1), number);
  }

  private static void rocks() {
    KnocksThroughRock x = new KnocksThroughRock();
    Due.is("ROCK or CLAY", x.rocks(1, 0, 0, 1, 4), bits(Due.ROCK, Due.CLAY));
    Due.is("GRANITE or WATER", x.rocks(1, 0, 0, 1, 2), bits(Due.GRANITE, Due.WATER));
    Due.is("a HOLLOW or what is DUG", x.rocks(1, 9, 0, 1, 1), bits(Due.HOLLOW, Due.DUG));
    Due.is("a VEIN", x.rocks(1, 9, 0, 1, 3), bits(Due.VEIN));
    Due.is("a FAULT", x.rocks(1, 9, 0, 1, 26), bits(Due.FAULT));
    Due.is("CLAY of FIGURE 9", x.rocks(1, 9, 0, 1, 13), bits(Due.CLAY));
    Due.is("WATER of FIGURE 9", x.rocks(1, 9, 0, 1, 6), bits(Due.WATER));
    Due.is("all, since it is the first cell", x.rocks(0, 9, 0, 1, 4), 255);
    Due.is("slow kinds are gone round", x.rocks(6, 9, 5, 7, 16), bits(Due.CLAY, Due.FAULT));
    Due.is("to its own cell", x.rocks(5, 0, 5, 5, 0), 255);
    Due.is("to its own cell, late", x.rocks(5, 0, 5, 5, 1), 0);
    Due.is("a time below 0", x.rocks(1, 0, 0, 1, -1), 0);
    Due.is("the most", x.rocks(1, 0, 0, 1, Integer.MAX_VALUE), 0);
    Due.is("it is as it was", x.cell(1, 0) + x.time(0, 1), 4);
    Due.is("rocks(20, ..)", x.rocks(20, 0, 0, 1, 4), -1);
    Due.is("rocks(-1, ..)", x.rocks(-1, 0, 0, 1, 4), -1);
    Due.is("figure 10", x.rocks(1, 10, 0, 1, 4), -1);
    Due.is("figure -1", x.rocks(1, -1, 0, 1, 4), -1);
    Due.is("from 20", x.rocks(1, 0, 20, 1, 4), -1);
    Due.is("from -1", x.rocks(1, 0, -1, 1, 4), -1);
    Due.is("to 20", x.rocks(1, 0, 0, 20, 4), -1);
    Due.is("to -1", x.rocks(1, 0, 0, -1, 4), -1);
  }

  private static void wrongCells() {
    KnocksThroughRock x = new KnocksThroughRock();
    int[] wrong = {-1, 20, Integer.MIN_VALUE, Integer.MAX_VALUE};
    for (int c : wrong) {
      Due.is("time from " + c, x.time(c, 0), -1);
      Due.is("time to " + c, x.time(0, c), -1);
      Due.is("loud from " + c, x.loud(c, 0, 9), -1);
      Due.is("loud to " + c, x.loud(0, c, 9), -1);
      Due.is("paths from " + c, x.paths(c, 0), -1);
      Due.is("paths to " + c, x.paths(0, c), -1);
    }
  }

  private static int bits(int... places) {
    int set = 0;
    for (int p : places) {
      set |= 1 << p;
    }
    return set;
  }
}
