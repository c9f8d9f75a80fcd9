/** Promises 25 to 31: keep, row, put, element, copy, pay, toss. */
public final class ShelvesTest {
  public static void main(String[] args) {
    keeps();
    rows();
    puts();
    elements();
    copies();
    paysAndTosses();
    Due.end();
  }

  private static void keeps() {
    KnocksThroughRock x = new KnocksThroughRock();
    Due.is("keep(8, ..)", x.keep(8, 1, 0, 0), -1);
    Due.is("keep(-1, ..)", x.keep(-1, 0, 0, 0), -1);
    Due.is("keep(0, 2, ..)", x.keep(0, 2, 0, 0), -1);
    Due.is("keep(0, -1, ..)", x.keep(0, -1, 0, 0), -1);
    Due.is("keep of kind 8", x.keep(0, 1, 8, 0), -1);
    Due.is("keep of kind -1", x.keep(0, 1, -1, 0), -1);
    Due.is("keep of figure 10", x.keep(0, 1, 0, 10), -1);
    Due.is("keep of figure -1", x.keep(0, 1, 0, -1), -1);
    Due.is("nothing was kept", x.pay(0), -11);
    Due.is("keep", x.keep(0, 1, Due.FAULT, 9), 0);
    Due.is("kept", x.pay(0), 7);
    Due.is("a refused call changes nothing", x.keep(0, 1, 8, 0), -1);
    Due.is("still kept", x.pay(0), 7);
    Due.is("keep nothing: the others do not matter", x.keep(0, 0, 99, -99), 0);
    Due.is("nothing is kept", x.pay(0), -11);
    x.row(0, 0, 5);
    Due.is("a ROCK in place of a ROW", x.keep(0, 1, 0, 0), 0);
    Due.is("no ROW any more", x.put(0, 0, 0), -12);
    x.row(0, 0, 5);
    Due.is("nothing in place of a ROW", x.keep(0, 0, 0, 0), 0);
    Due.is("nothing there", x.put(0, 0, 0), -11);
    x.keep(7, 1, Due.GRANITE, 1);
    x.keep(6, 1, Due.GRANITE, 2);
    Due.is("each shelf its own", x.pay(7) * 10 + x.pay(6), 45);
  }

  private static void rows() {
    KnocksThroughRock x = new KnocksThroughRock();
    Due.is("row(8, ..)", x.row(8, 0, 1), -1);
    Due.is("row(-1, ..)", x.row(-1, 0, 1), -1);
    Due.is("row(0, 3, ..)", x.row(0, 3, 1), -1);
    Due.is("row(0, -1, ..)", x.row(0, -1, 1), -1);
    Due.is("row of 101", x.row(0, 0, 101), -1);
    Due.is("row of -1", x.row(0, 0, -1), -14);
    Due.is("row of the least", x.row(0, 0, Integer.MIN_VALUE), -14);
    Due.is("row(8, 0, -1): the shelf goes ahead", x.row(8, 0, -1), -1);
    Due.is("row(0, 3, -1): the sort goes ahead", x.row(0, 3, -1), -1);
    Due.is("nothing is held", x.put(0, 0, 0), -11);
    Due.is("row of 100", x.row(0, 2, 100), 0);
    Due.is("its last", x.put(0, 99, 5), 0);
    Due.is("a refused call changes nothing", x.row(0, 2, -1), -14);
    Due.is("its last stays", x.element(0, 99), 5);
    Due.is("a new one", x.row(0, 2, 100), 0);
    Due.is("0 at first", x.element(0, 99), 0);
    x.put(0, 3, 8);
    x.row(0, 2, 2);
    x.row(0, 2, 4);
    Due.is("0 at first, behind a shorter one", x.element(0, 3), 0);
    Due.is("row of 0", x.row(0, 1, 0), 0);
    Due.is("no place in it", x.put(0, 0, 1), -13);
    x.keep(0, 1, Due.WATER, 1);
    Due.is("a ROW in place of a ROCK", x.row(0, 1, 1), 0);
    Due.is("no ROCK any more", x.pay(0), -12);
  }

  private static void puts() {
    KnocksThroughRock x = new KnocksThroughRock();
    Due.is("put(8, ..)", x.put(8, 0, 0), -1);
    Due.is("put(-1, ..)", x.put(-1, 0, 0), -1);
    Due.is("put in nothing", x.put(0, 0, 0), -11);
    x.keep(0, 1, 0, 0);
    Due.is("put in a ROCK", x.put(0, -5, 0), -12);
    x.row(0, 0, 3);
    Due.is("put at 3 of 3", x.put(0, 3, 1), -13);
    Due.is("put at -1", x.put(0, -1, 1), -13);
    Due.is("put at the most", x.put(0, Integer.MAX_VALUE, 1), -13);
    int[] values = {0, 1, -1, 127, 128, 255, 256, -128, -129, 32767, 32768, 65535, 65536, -32768, -32769,
      Integer.MAX_VALUE, Integer.MIN_VALUE};
    for (int v : values) {
      x.row(1, 0, 2);
      x.row(2, 1, 2);
      x.row(3, 2, 2);
      for (int d = 1; d < 4; d++) {
        Due.is("put " + v, x.put(d, 1, v), 0);
      }
      Due.is("byte of " + v, x.element(1, 1), (byte) v);
      Due.is("short of " + v, x.element(2, 1), (short) v);
      Due.is("int of " + v, x.element(3, 1), v);
      Due.is("the one ahead", x.element(3, 0), 0);
    }
  }

  private static void elements() {
    KnocksThroughRock x = new KnocksThroughRock();
    Due.is("element(8, 0)", Due.thrownByElement(x, 8, 0), 1);
    Due.is("element(-1, 0)", Due.thrownByElement(x, -1, 0), 1);
    Due.is("element of nothing", Due.thrownByElement(x, 0, 0), 2);
    x.keep(0, 1, 0, 0);
    Due.is("element of a ROCK", Due.thrownByElement(x, 0, 0), 2);
    x.row(0, 0, 2);
    Due.is("element 1 of 2", Due.thrownByElement(x, 0, 1), 0);
    Due.is("element 2 of 2", Due.thrownByElement(x, 0, 2), 2);
    Due.is("element -1", Due.thrownByElement(x, 0, -1), 2);
    Due.is("element of the least", Due.thrownByElement(x, 0, Integer.MIN_VALUE), 2);
    Due.is("element of no shelf, no place", Due.thrownByElement(x, 8, -1), 1);
    x.put(0, 0, 200);
    Due.is("a byte is below 0", x.element(0, 0), -56);
  }

  private static void copies() {
    KnocksThroughRock x = new KnocksThroughRock();
    Due.row(x, 0, 0, 1, 2, 3, 4, 5);
    Due.is("copy(8, ..)", x.copy(8, 0, 0, 0, 1), -1);
    Due.is("copy(-1, ..)", x.copy(-1, 0, 0, 0, 1), -1);
    Due.is("copy to 8", x.copy(0, 0, 8, 0, 1), -1);
    Due.is("copy to -1", x.copy(0, 0, -1, 0, 1), -1);
    Due.is("copy of nothing", x.copy(1, 0, 0, 0, 1), -11);
    Due.is("copy to nothing", x.copy(0, 0, 1, 0, 1), -11);
    Due.is("copy of nothing to 8", x.copy(1, 0, 8, 0, 1), -1);
    x.keep(1, 1, 0, 0);
    Due.is("copy of a ROCK", x.copy(1, 0, 0, 0, 1), -12);
    Due.is("copy to a ROCK", x.copy(0, 0, 1, 0, 1), -12);
    Due.is("copy of a ROCK to a ROCK", x.copy(1, 0, 1, 0, 1), -12);
    Due.is("copy of a ROCK to nothing", x.copy(1, 0, 2, 0, 1), -11);
    x.row(1, 1, 5);
    Due.is("copy to another SORT", x.copy(0, 0, 1, 0, 1), -12);
    Due.is("copy to another SORT, below 0", x.copy(0, 0, 1, 0, -1), -12);
    x.row(1, 0, 3);
    Due.is("copy of -1", x.copy(0, 0, 1, 0, -1), -13);
    Due.is("copy from -1", x.copy(0, -1, 1, 0, 1), -13);
    Due.is("copy to place -1", x.copy(0, 0, 1, -1, 1), -13);
    Due.is("copy beyond the end of the first", x.copy(0, 3, 1, 0, 3), -13);
    Due.is("copy beyond the end of the other", x.copy(0, 0, 1, 0, 4), -13);
    Due.is("copy of the most", x.copy(0, 1, 1, 1, Integer.MAX_VALUE), -13);
    Due.is("copy from the most", x.copy(0, Integer.MAX_VALUE, 1, 0, 1), -13);
    Due.is("copy to the most", x.copy(0, 0, 1, Integer.MAX_VALUE, 1), -13);
    Due.is("copy of the least", x.copy(0, 0, 1, 0, Integer.MIN_VALUE), -13);
    row(x, 1, 0, 0, 0);
    Due.is("copy of none, at the ends", x.copy(0, 5, 1, 3, 0), 0);
    Due.is("copy of none, beyond the end", x.copy(0, 6, 1, 0, 0), -13);
    Due.is("copy of none, beyond the other end", x.copy(0, 0, 1, 4, 0), -13);
    Due.is("copy of two", x.copy(0, 3, 1, 0, 2), 2);
    row(x, 1, 4, 5, 0);
    row(x, 0, 1, 2, 3, 4, 5);
    Due.is("copy of three", x.copy(0, 0, 1, 0, 3), 3);
    row(x, 1, 1, 2, 3);
    Due.is("copy on itself, on", x.copy(0, 0, 0, 1, 4), 4);
    row(x, 0, 1, 1, 2, 3, 4);
    Due.is("copy on itself, back", x.copy(0, 1, 0, 0, 4), 4);
    row(x, 0, 1, 2, 3, 4, 4);
    Due.row(x, 2, 2, Integer.MIN_VALUE, 9);
    Due.row(x, 3, 2, 0, 0);
    Due.is("copy of ints", x.copy(2, 0, 3, 1, 1), 1);
    row(x, 3, 0, Integer.MIN_VALUE);
  }

  private static void row(KnocksThroughRock x, int d, int... elements) {
    for (int i = 0; i < elements.length; i++) {
      Due.is("element(" + d + ", " + i + ")", x.element(d, i), elements[i]);
    }
  }

  private static void paysAndTosses() {
    for (int f = 0; f < 10; f++) {
      KnocksThroughRock x = new KnocksThroughRock();
      int vein = (3 + f) * (f + 1);
      int[] pay = {3, 3 + f, 2, 4, vein, 3, 7, 3 - f};
      int[] failure = {f, f, f, f + 100, 200 + vein, f, f, -15};
      for (int k = 0; k < 8; k++) {
        x.keep(5, 1, k, f);
        String which = " of kind " + k + " figure " + f;
        Due.is("pay" + which, x.pay(5), pay[k]);
        Due.is("toss" + which, x.toss(5), f == 0 ? -15 : failure[k]);
        Due.is("toss again" + which, x.toss(5), f == 0 ? -15 : failure[k]);
        Due.is("pay again" + which, x.pay(5), pay[k]);
      }
    }
    KnocksThroughRock x = new KnocksThroughRock();
    for (int d : new int[] {-1, 8, Integer.MIN_VALUE, Integer.MAX_VALUE}) {
      Due.is("pay(" + d + ")", x.pay(d), -1);
      Due.is("toss(" + d + ")", x.toss(d), -1);
    }
    Due.is("pay of nothing", x.pay(0), -11);
    Due.is("toss of nothing", x.toss(0), -11);
    x.row(0, 2, 1);
    Due.is("pay of a ROW", x.pay(0), -12);
    Due.is("toss of a ROW", x.toss(0), -12);
  }
}
