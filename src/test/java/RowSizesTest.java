/**
 * An empty ROW, one of as many elements as a call takes at most, one more: for each call that reads
 * a ROW or changes it.
 */
public final class RowSizesTest {
  public static void main(String[] args) {
    texts();
    knocksThatWereHeard();
    placesToListen();
    codes();
    toldDigs();
    lastPlaces();
    zeroAtFirst();
    Due.end();
  }

  /** "At least one STATEMENT": an empty text ends too early; the fullest one has 100 bytes. */
  private static void texts() {
    KnocksThroughRock x = new KnocksThroughRock();
    Due.reads(x, "", -1000);
    Due.reads(x, "d01;", 1);
    StringBuilder text = new StringBuilder();
    for (int i = 0; i < 25; i++) {
      text.append(i % 2 == 0 ? "d03;" : "d01;");
    }
    Due.is("bytes of the fullest text", text.length(), 100);
    Due.reads(x, text.toString(), 25);
    Due.is("the last of 25 is done", x.gang(0, 0), 0);
    text.setLength(0);
    for (int i = 0; i < 16; i++) {
      text.append("k0010;");
    }
    Due.reads(x, text + "g001", -1100);
    Due.reads(x, text + "d01;", 17);
    Due.reads(x, text + "d00;", -2096);
    Due.reads(x, text + "d01x", -1099);
    x.row(0, 0, 100);
    Due.is("100 bytes 0", x.mountain(0), -1000);
  }

  /** An empty ROW of knocks fits every CELL, and so does any ROW of one knock. */
  private static void knocksThatWereHeard() {
    KnocksThroughRock x = new KnocksThroughRock();
    int[] manyBySize = {20, -13, 20, -13, 20};
    for (int n = 0; n < 5; n++) {
      x.row(0, 2, n);
      Due.is("from " + n + " elements", x.from(0, 0), manyBySize[n]);
      Due.is("from " + n + " elements, the least", x.from(0, 1), n % 2 == 0 ? 0 : -13);
    }
    x.row(0, 2, 99);
    Due.is("from 99 elements", x.from(0, 0), -13);
    x.row(0, 2, 100);
    Due.is("from 100 elements", x.from(0, 0), 20);
    x.put(0, 98, 19);
    x.put(0, 99, 28);
    Due.is("the last of 100 counts", x.from(0, 0), 1);
    Due.is("the last of 100 counts: from", x.from(0, 1), 0);
    x.put(0, 99, 29);
    Due.is("the last of 100 does not fit", x.from(0, 1), -4);
    x.put(0, 98, 20);
    Due.is("the last of 100 is no cell", x.from(0, 0), -13);
  }

  private static void placesToListen() {
    KnocksThroughRock x = new KnocksThroughRock();
    for (int n : new int[] {0, 1, 2, 19, 20, 21, 22, 99, 100}) {
      x.row(0, 0, n);
      Due.is("listen by " + n, x.listen(0, 0), n == 0 ? -4 : n > 20 ? -13 : 0);
      Due.is("listen by " + n + ", how many", x.listen(0, 1), n == 0 ? -4 : n > 20 ? -13 : n);
    }
    x.row(0, 0, 20);
    x.put(0, 19, 19);
    Due.is("the last of 20 counts", x.listen(0, 1), 19);
    x.put(0, 19, 20);
    Due.is("the last of 20 is no cell", x.listen(0, 1), -13);
    x.row(0, 0, 21);
    x.put(0, 3, 77);
    Due.is("21, and no cell", x.listen(0, 1), -13);
  }

  private static void codes() {
    KnocksThroughRock x = new KnocksThroughRock();
    for (int n : new int[] {0, 1, 7, 8, 9, 10, 99, 100}) {
      x.row(0, 0, n);
      for (int i = 0; i < n; i++) {
        x.put(0, i, i);
      }
      Due.is("safe of " + n, x.safe(0, 0, 0), n > 8 ? -13 : (1 << n) - 1);
      Due.is("safe of " + n + ", how many", x.safe(0, 0, 1), n > 8 ? -13 : n);
      Due.is("safe of " + n + ", e 8", x.safe(0, 8, 0), n > 8 ? -13 : n > 0 ? 1 : 0);
      Due.is("safe of " + n + ", e 8, how many", x.safe(0, 8, 1), n > 8 ? -13 : n > 0 ? 1 : 0);
    }
  }

  private static void toldDigs() {
    for (int sort = 0; sort < 3; sort++) {
      KnocksThroughRock x = new KnocksThroughRock();
      for (int n : new int[] {0, 1, 2, 3, 4, 5, 6, 98, 99, 100}) {
        x.row(0, sort, n);
        for (int i = 0; i < n; i++) {
          x.put(0, i, i % 3 == 0 ? 0 : i % 3 == 1 ? i % 2 == 1 ? 1 : 3 : i == 2 ? 5 : 10);
        }
        Due.is("judge of " + n + " elements, all so", x.judge(0), n % 3 == 0 ? -4 : n - n % 3);
      }
      x.put(0, 98, 11);
      Due.is("what isn't so goes ahead of the last three, not whole", x.judge(0), 98);
      x.row(0, sort, 99);
      Due.is("judge of 99 elements 0", x.judge(0), 1);
    }
  }

  private static void lastPlaces() {
    for (int sort = 0; sort < 3; sort++) {
      for (int n : new int[] {0, 1, 99, 100}) {
        KnocksThroughRock x = new KnocksThroughRock();
        x.row(3, sort, n);
        x.row(4, sort, 100);
        Due.is("put behind the last of " + n, x.put(3, n, 1), -13);
        Due.is("element behind the last of " + n, Due.thrownByElement(x, 3, n), 2);
        if (n > 0) {
          Due.is("put the last of " + n, x.put(3, n - 1, 77), 0);
          Due.is("the last of " + n, x.element(3, n - 1), 77);
        }
        Due.is("copy all of " + n, x.copy(3, 0, 4, 100 - n, n), n);
        if (n > 0) {
          Due.is("the last of " + n + " has come", x.element(4, 99), 77);
        }
        Due.is("copy one more than " + n, x.copy(3, 0, 4, 0, n + 1), -13);
        Due.is("copy nothing behind the last of " + n, x.copy(4, 100, 3, n, 0), 0);
        Due.is("copy all of 100 on themselves", x.copy(4, 0, 4, 0, 100), 100);
      }
    }
  }

  /** "0 .. 100 elements, 0 at first": also where a fuller ROW, or what came there, lay before. */
  private static void zeroAtFirst() {
    KnocksThroughRock x = new KnocksThroughRock();
    for (int sort = 0; sort < 3; sort++) {
      Due.is("row", x.row(2, sort, 100), 0);
      int sum = 0;
      for (int i = 0; i < 100; i++) {
        sum += Math.abs((int) x.element(2, i));
      }
      Due.is("all 100 are 0", sum, 0);
      x.put(2, 0, 1);
      x.put(2, 1, 1);
      x.copy(2, 0, 2, 98, 2);
      x.row(2, sort, 1);
      Due.is("one alone is 0", x.element(2, 0), 0);
    }
  }
}
