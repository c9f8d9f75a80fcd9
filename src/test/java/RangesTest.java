/**
 * Every number that a call takes: the least and the greatest that it may be are taken, one below and
 * one above are not, nor the least and the greatest ints; each other argument is a good one then.
 */
public final class RangesTest {
  private interface Call {
    long made(KnocksThroughRock x, int n);
  }

  // What lies on every shelf while its number is tried.
  private static final int ROCKS = 0;
  private static final int BYTES = 1;
  private static final int INTS = 2;

  public static void main(String[] args) {
    cells();
    gangs();
    knocks();
    codes();
    seeds();
    shelvesByNumber();
    whatIsKept();
    whatIsTold();
    places();
    elementsOfRows();
    textsOfMountains();
    Due.end();
  }

  private static KnocksThroughRock stage(int held) {
    KnocksThroughRock x = new KnocksThroughRock();
    for (int d = 0; d < 8; d++) {
      if (held == ROCKS) {
        x.keep(d, 1, Due.WATER, 7);
      } else if (held == BYTES) {
        Due.row(x, d, 0, 'd', '0', '1', ';');
      } else {
        Due.row(x, d, 2, 0, 1, 5, 0);
      }
    }
    return x;
  }

  private static void range(String call, int held, int low, int high, int refusal, Call made) {
    for (int n = low; n <= high; n++) {
      long got = made.made(stage(held), n);
      Due.is(call + " with " + n + " answers " + got + ": it is taken", got == refusal ? 0 : 1, 1);
    }
    for (int n : new int[] {low - 1, high + 1, Integer.MIN_VALUE, Integer.MAX_VALUE}) {
      Due.is(call + " with " + n, made.made(stage(held), n), refusal);
    }
  }

  /** Where -1 is the refusal. */
  private static void range(String call, int held, int low, int high, Call made) {
    range(call, held, low, high, -1, made);
  }

  private static void cells() {
    range("cell(?, 0)", ROCKS, 0, 19, (x, n) -> x.cell(n, 0));
    range("cell(0, ?)", ROCKS, 0, 4, (x, n) -> x.cell(0, n));
    range("cell(19, ?)", ROCKS, 0, 4, (x, n) -> x.cell(19, n));
    range("lay(0, ?)", ROCKS, 0, 19, (x, n) -> x.lay(0, n));
    range("time(?, 0)", ROCKS, 0, 19, (x, n) -> x.time(n, 0));
    range("time(0, ?)", ROCKS, 0, 19, (x, n) -> x.time(0, n));
    range("loud(?, 0, 9)", ROCKS, 0, 19, (x, n) -> x.loud(n, 0, 9));
    range("loud(0, ?, 9)", ROCKS, 0, 19, (x, n) -> x.loud(0, n, 9));
    range("paths(?, 0)", ROCKS, 0, 19, (x, n) -> x.paths(n, 0));
    range("paths(0, ?)", ROCKS, 0, 19, (x, n) -> x.paths(0, n));
    range("reaches(?, 9)", ROCKS, 0, 19, (x, n) -> x.reaches(n, 9));
    range("rocks(?, 0, 0, 1, 4)", ROCKS, 0, 19, (x, n) -> x.rocks(n, 0, 0, 1, 4));
    range("rocks(0, 0, ?, 1, 4)", ROCKS, 0, 19, (x, n) -> x.rocks(0, 0, n, 1, 4));
    range("rocks(0, 0, 0, ?, 4)", ROCKS, 0, 19, (x, n) -> x.rocks(0, 0, 0, n, 4));
  }

  private static void gangs() {
    range("gang(?, 0)", ROCKS, 0, 1, (x, n) -> x.gang(n, 0));
    range("gang(?, 1)", ROCKS, 0, 1, (x, n) -> x.gang(n, 1));
    range("gang(0, ?)", ROCKS, 0, 1, (x, n) -> x.gang(0, n));
    range("gang(1, ?)", ROCKS, 0, 1, (x, n) -> x.gang(1, n));
    range("dig(?, 1)", ROCKS, 0, 1, (x, n) -> x.dig(n, 1));
    range("dig(0, ?)", ROCKS, 0, 3, (x, n) -> x.dig(0, n));
    range("side(?, 0)", ROCKS, 0, 1, (x, n) -> x.side(n, 0));
    range("side(?, 1)", ROCKS, 0, 1, (x, n) -> x.side(n, 1));
    range("side(0, ?)", ROCKS, 0, 1, (x, n) -> x.side(0, n));
    range("side(1, ?)", ROCKS, 0, 1, (x, n) -> x.side(1, n));
  }

  private static void knocks() {
    range("loud(0, 1, ?)", ROCKS, 0, 99, (x, n) -> x.loud(0, 1, n));
    range("loud(0, 0, ?)", ROCKS, 0, 99, (x, n) -> x.loud(0, 0, n));
    range("reaches(0, ?)", ROCKS, 1, 99, (x, n) -> x.reaches(0, n));
    range("rocks(1, ?, 0, 1, 4)", ROCKS, 0, 9, (x, n) -> x.rocks(1, n, 0, 1, 4));
    range("from(0, ?)", INTS, 0, 1, (x, n) -> x.from(0, n));
    range("listen(0, ?)", INTS, 0, 1, (x, n) -> {
      x.row(0, 0, 2);
      return x.listen(0, n);
    });
    for (int time : new int[] {Integer.MIN_VALUE, -1, 0, 26 * 19, Integer.MAX_VALUE}) {
      Due.is("rocks at any time: " + time, new KnocksThroughRock().rocks(1, 0, 0, 1, time), 0);
    }
  }

  private static void codes() {
    range("taken(?, 0, 8)", ROCKS, 0, 255, (x, n) -> x.taken(n, 0, 8));
    range("taken(0, ?, 0)", ROCKS, 0, 255, (x, n) -> x.taken(0, n, 0));
    range("taken(255, 0, ?)", ROCKS, 0, 8, (x, n) -> x.taken(255, 0, n));
    range("safe(0, ?, 0)", BYTES, 0, 8, (x, n) -> x.safe(0, n, 0));
    range("safe(0, 0, ?)", BYTES, 0, 1, (x, n) -> x.safe(0, 0, n));
  }

  private static void seeds() {
    range("seeded(?, 3, 0)", ROCKS, 1, 40, (x, n) -> x.seeded(n, 3, 0));
    range("seeded(?, 3, 1)", ROCKS, 1, 40, (x, n) -> x.seeded(n, 3, 1));
    range("seeded(1, 3, ?)", ROCKS, 0, 1, (x, n) -> x.seeded(1, 3, n));
    for (int z : new int[] {Integer.MIN_VALUE, -1, 0, 1, Integer.MAX_VALUE}) {
      Due.is("seeded with any seed: " + z, new KnocksThroughRock().seeded(40, z, 0) > 0 ? 1 : 0, 1);
    }
  }

  private static void shelvesByNumber() {
    range("mountain(?)", BYTES, 0, 7, (x, n) -> x.mountain(n));
    range("lay(?, 3)", ROCKS, 0, 7, (x, n) -> x.lay(n, 3));
    range("from(?, 0)", INTS, 0, 7, (x, n) -> x.from(n, 0));
    range("listen(?, 0)", BYTES, 0, 7, (x, n) -> x.listen(n, 0));
    range("safe(?, 0, 0)", BYTES, 0, 7, (x, n) -> x.safe(n, 0, 0));
    range("judge(?)", BYTES, 0, 7, (x, n) -> x.judge(n));
    range("keep(?, 0, 0, 0)", ROCKS, 0, 7, (x, n) -> x.keep(n, 0, 0, 0));
    range("keep(?, 1, 0, 0)", BYTES, 0, 7, (x, n) -> x.keep(n, 1, 0, 0));
    range("row(?, 0, 0)", ROCKS, 0, 7, (x, n) -> x.row(n, 0, 0));
    range("put(?, 0, 0)", BYTES, 0, 7, (x, n) -> x.put(n, 0, 0));
    range("copy(?, 0, 1, 0, 4)", INTS, 0, 7, (x, n) -> x.copy(n, 0, 1, 0, 4));
    range("copy(1, 0, ?, 0, 4)", INTS, 0, 7, (x, n) -> x.copy(1, 0, n, 0, 4));
    range("pay(?)", ROCKS, 0, 7, (x, n) -> x.pay(n));
    range("toss(?)", ROCKS, 0, 7, (x, n) -> x.toss(n));
    range("element(?, 0)", BYTES, 0, 7, 1, (x, n) -> Due.thrownByElement(x, n, 0));
  }

  private static void whatIsKept() {
    range("keep(0, ?, 0, 0)", ROCKS, 0, 1, (x, n) -> x.keep(0, n, 0, 0));
    range("keep(0, 1, ?, 0)", ROCKS, 0, 7, (x, n) -> x.keep(0, 1, n, 0));
    range("keep(0, 1, 0, ?)", ROCKS, 0, 9, (x, n) -> x.keep(0, 1, 0, n));
    range("keep(0, 1, 7, ?)", ROCKS, 0, 9, (x, n) -> x.keep(0, 1, 7, n));
    int[] any = {Integer.MIN_VALUE, -1, 0, 7, 8, 9, 10, Integer.MAX_VALUE};
    for (int k : any) {
      for (int figure : any) {
        KnocksThroughRock x = stage(ROCKS);
        Due.is("keep(3, 0, ..): the others do not matter", x.keep(3, 0, k, figure), 0);
        Due.is("nothing is there then", x.pay(3), -11);
      }
    }
    range("row(0, ?, 5)", ROCKS, 0, 2, (x, n) -> x.row(0, n, 5));
    for (int sort = 0; sort < 3; sort++) {
      KnocksThroughRock x = new KnocksThroughRock();
      Due.is("row of the least", x.row(0, sort, Integer.MIN_VALUE), -14);
      Due.is("row of -1", x.row(0, sort, -1), -14);
      Due.is("nothing is there", x.pay(0), -11);
      Due.is("row of 0", x.row(0, sort, 0), 0);
      Due.is("a ROW is there", x.pay(0), -12);
      Due.is("row of 1", x.row(0, sort, 1), 0);
      Due.is("row of 99", x.row(0, sort, 99), 0);
      Due.is("row of 100", x.row(0, sort, 100), 0);
      Due.is("row of 101", x.row(0, sort, 101), -1);
      Due.is("row of the most", x.row(0, sort, Integer.MAX_VALUE), -1);
      Due.is("its last of 100", Due.thrownByElement(x, 0, 99), 0);
    }
  }

  private static void whatIsTold() {
    range("count(?)", ROCKS, 0, 9, (x, n) -> x.count(n));
  }

  private static void places() {
    for (int held : new int[] {BYTES, INTS}) {
      range("put(0, ?, 1)", held, 0, 3, -13, (x, n) -> x.put(0, n, 1));
      range("element(0, ?)", held, 0, 3, 2, (x, n) -> Due.thrownByElement(x, 0, n));
      range("copy(0, ?, 1, 0, 1)", held, 0, 3, -13, (x, n) -> x.copy(0, n, 1, 0, 1));
      range("copy(0, 0, 1, ?, 1)", held, 0, 3, -13, (x, n) -> x.copy(0, 0, 1, n, 1));
      range("copy(0, ?, 1, 0, 0)", held, 0, 4, -13, (x, n) -> x.copy(0, n, 1, 0, 0));
      range("copy(0, 0, 1, ?, 0)", held, 0, 4, -13, (x, n) -> x.copy(0, 0, 1, n, 0));
      range("copy(0, ?, 1, 0, 3)", held, 0, 1, -13, (x, n) -> x.copy(0, n, 1, 0, 3));
      range("copy(0, 0, 1, ?, 3)", held, 0, 1, -13, (x, n) -> x.copy(0, 0, 1, n, 3));
      range("copy(0, 0, 1, 0, ?)", held, 0, 4, -13, (x, n) -> x.copy(0, 0, 1, 0, n));
      range("copy(0, 3, 1, 0, ?)", held, 0, 1, -13, (x, n) -> x.copy(0, 3, 1, 0, n));
      range("copy(0, 0, 1, 4, ?)", held, 0, 0, -13, (x, n) -> x.copy(0, 0, 1, 4, n));
      range("copy(0, 0, 0, 1, ?)", held, 0, 3, -13, (x, n) -> x.copy(0, 0, 0, 1, n));
    }
  }

  private static void elementsOfRows() {
    for (int place = 0; place < 4; place += 2) {
      int at = place;
      range("from with a cell at " + at, INTS, 0, 19, -13, (x, n) -> {
        x.put(0, at, n);
        return x.from(0, 0);
      });
    }
    // The least int's lowest bits are cell 0's, the greatest one's are -1: bytes are tried by themselves.
    for (int n = -128; n < 128; n++) {
      KnocksThroughRock x = new KnocksThroughRock();
      Due.row(x, 0, 0, 3, n, 3);
      boolean isCell = n >= 0 && n <= 19;
      Due.is("listen with " + n, x.listen(0, 1), !isCell ? -13 : n == 3 ? 3 : 2);
      Due.row(x, 0, 0, n, 2, 5);
      Due.is("judge with a gang " + n, x.judge(0), n == 0 ? -4 : n == 1 ? 1 : 0);
      Due.row(x, 0, 0, 0, n, 5);
      Due.is("judge with a side " + n, x.judge(0), n == 1 || n == 2 ? -4 : 1);
      Due.row(x, 0, 0, 0, 1, n);
      Due.is("judge with hours " + n, x.judge(0), n == 5 ? -4 : 2);
      Due.row(x, 0, 0, n, 0);
      Due.is("safe with " + n, x.safe(0, 0, 1), n == 0 ? 1 : 2);
    }
    for (int n : new int[] {Integer.MIN_VALUE, -2, -1, 2, 3, 65536, Integer.MAX_VALUE}) {
      KnocksThroughRock x = new KnocksThroughRock();
      Due.row(x, 0, 2, n, 1, 5);
      Due.is("judge with a gang " + n, x.judge(0), 0);
      Due.row(x, 0, 2, 0, n == 2 ? 4 : n, 5);
      Due.is("judge with a side " + n, x.judge(0), 1);
      Due.row(x, 0, 2, 0, 1, n);
      Due.is("judge with hours " + n, x.judge(0), 2);
    }
  }

  /** Every two digits of a cell, every digit of the others: in range it is so, else it is a FAULT. */
  private static void textsOfMountains() {
    for (int n = 0; n < 100; n++) {
      String digits = "" + n / 10 + n % 10;
      KnocksThroughRock x = new KnocksThroughRock();
      Due.reads(x, "k" + digits + "49;", n < 20 ? 1 : -2000);
      if (n < 20) {
        Due.is("the cell that is told", x.cell(n, 0) * 10 + x.cell(n, 1), 49);
      }
      Due.reads(x, "g0" + digits + ";g1" + digits + ";", n < 20 ? 2 : -2000);
      Due.is("the cell where a gang is told to be", x.gang(0, 0), n < 20 ? n : 0);
      Due.is("the cell where the other one is", x.gang(1, 0), n < 20 ? n : 19);
    }
    for (int n = 0; n < 10; n++) {
      KnocksThroughRock x = new KnocksThroughRock();
      Due.reads(x, "k07" + n + "5;", n < 8 ? 1 : -2000);
      Due.is("kind", x.cell(7, 0), n < 8 ? n : 0);
      Due.reads(x, "k083" + n + ";", 1);
      Due.is("figure", x.cell(8, 1), n);
      Due.reads(x, "g" + n + "06;", n < 2 ? 1 : -2000);
      Due.reads(x, "g006;g106;d" + n + "1;", n < 2 ? 3 : -2010);
      Due.reads(x, "g006;d0" + n + ";", n < 4 ? 2 : -2005);
    }
  }
}
