/** Promises 18 and 19: taken, safe. */
public final class CodesTest {
  public static void main(String[] args) {
    taken();
    safe();
    Due.end();
  }

  private static void taken() {
    KnocksThroughRock x = new KnocksThroughRock();
    Due.is("one code for itself", x.taken(7, 7, 0), 1);
    Due.is("one knock more", x.taken(7, 3, 0), 0);
    Due.is("one knock more, e 1", x.taken(7, 3, 1), 1);
    Due.is("one knock less, e 1", x.taken(3, 7, 1), 1);
    Due.is("each has one", x.taken(5, 6, 1), 1);
    Due.is("one has two, the other one none", x.taken(12, 0, 1), 0);
    Due.is("one has none, the other one two", x.taken(0, 12, 1), 0);
    Due.is("each has four", x.taken(240, 15, 4), 1);
    Due.is("each has four, e 3", x.taken(240, 15, 3), 0);
    Due.is("eight, e 8", x.taken(255, 0, 8), 1);
    Due.is("eight the other way, e 8", x.taken(0, 255, 8), 1);
    Due.is("eight, e 7", x.taken(255, 0, 7), 0);
    Due.is("taken(-1, 0, 0)", x.taken(-1, 0, 0), -1);
    Due.is("taken(256, 0, 0)", x.taken(256, 0, 0), -1);
    Due.is("taken(0, -1, 0)", x.taken(0, -1, 0), -1);
    Due.is("taken(0, 256, 0)", x.taken(0, 256, 0), -1);
    Due.is("taken(0, 0, -1)", x.taken(0, 0, -1), -1);
    Due.is("taken(0, 0, 9)", x.taken(0, 0, 9), -1);
  }

  private static void safe() {
    KnocksThroughRock x = new KnocksThroughRock();
    safe(x, 0, 0, 0);
    safe(x, 0, 1, 1, 9);
    safe(x, 0, 1, 1, 9, 9);
    safe(x, 0, 3, 2, 9, 8);
    safe(x, 1, 1, 1, 9, 8);
    safe(x, 0, 5, 2, -1, 255, 0);
    safe(x, 7, 5, 2, -1, 255, 0);
    safe(x, 8, 1, 1, -1, 255, 0);
    // 1 and 0 are taken for one another, 7 and 3 too, 1 and 3 too: of three pairs the least.
    safe(x, 1, 5, 2, 1, 0, 7, 3);
    safe(x, 0, 255, 8, 1, 2, 4, 8, 16, 32, 64, 128);
    safe(x, 1, 1, 1, 1, 2, 4, 8, 16, 32, 64, 128);
    safe(x, 0, 127, 7, 1, 2, 4, 8, 16, 32, 64, 1);
    // The first is taken for each other one: it is left out.
    safe(x, 1, 6, 2, 3, 5, 10);

    KnocksThroughRock y = new KnocksThroughRock();
    Due.is("safe(8, 0, 0)", y.safe(8, 0, 0), -1);
    Due.is("safe(-1, 0, 0)", y.safe(-1, 0, 0), -1);
    Due.is("safe(0, -1, 0)", y.safe(0, -1, 0), -1);
    Due.is("safe(0, 9, 0)", y.safe(0, 9, 0), -1);
    Due.is("safe(0, 0, -1)", y.safe(0, 0, -1), -1);
    Due.is("safe(0, 0, 2)", y.safe(0, 0, 2), -1);
    Due.is("safe of nothing", y.safe(0, 0, 0), -11);
    y.keep(0, 1, 0, 0);
    Due.is("safe of a ROCK", y.safe(0, 0, 0), -12);
    y.row(0, 1, 2);
    Due.is("safe of shorts", y.safe(0, 0, 0), -12);
    y.row(0, 2, 2);
    Due.is("safe of ints", y.safe(0, 0, 0), -12);
    y.row(0, 0, 9);
    Due.is("safe of 9", y.safe(0, 0, 1), -13);
    y.row(0, 0, 8);
    Due.is("safe of 8", y.safe(0, 0, 1), 1);
  }

  private static void safe(KnocksThroughRock x, int e, int set, int many, int... codes) {
    Due.row(x, 2, 0, codes);
    Due.is("the set, e " + e, x.safe(2, e, 0), set);
    Due.is("how many, e " + e, x.safe(2, e, 1), many);
  }
}
