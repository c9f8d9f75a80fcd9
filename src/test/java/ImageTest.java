/** Promises 22 to 24: image, restore, count. */
public final class ImageTest {
  public static void main(String[] args) {
    images();
    counts();
    Due.end();
  }

  private static void images() {
    KnocksThroughRock x = new KnocksThroughRock();
    Due.is("no image", x.restore(), -3);
    x.dig(0, 1);
    x.dig(1, 0);
    Due.is("image", x.image(), 10);
    x.keep(3, 1, Due.VEIN, 4);
    x.lay(3, 19);
    x.row(4, 2, 2);
    x.put(4, 1, 77);
    x.dig(0, 2);
    Due.reads(x, "g017;k0139;", 2);
    Due.is("restore", x.restore(), 10);
    Due.is("gang 0", x.gang(0, 0), 1);
    Due.is("gang 1", x.gang(1, 0), 14);
    Due.is("hours 0", x.gang(0, 1), 5);
    Due.is("hours 1", x.gang(1, 1), 5);
    Due.is("kinds: ROCK", x.count(0), 18);
    Due.is("kinds: DUG", x.count(7), 2);
    Due.is("a cell", x.cell(19, 0), Due.ROCK);
    Due.is("shelves stay: ROCK", x.toss(3), 200 + 7 * 5);
    Due.is("shelves stay: ROW", x.element(4, 1), 77);
    x.dig(0, 1);
    x.dig(0, 1);
    Due.is("the image stays", x.restore(), 10);
    Due.is("gang 0 again", x.gang(0, 0), 1);
    Due.is("dug again", x.count(7), 2);
    x.dig(0, 1);
    Due.is("a newer image", x.image(), 15);
    x.dig(1, 0);
    Due.is("the newer one is restored", x.restore(), 15);
    Due.is("gang 0 then", x.gang(0, 0), 2);
    Due.is("gang 1 then", x.gang(1, 0), 14);
    Due.is("image of a new object", new KnocksThroughRock().image(), 0);
  }

  private static void counts() {
    KnocksThroughRock x = new KnocksThroughRock();
    int[] atFirst = {20, 0, 0, 0, 0, 0, 0, 0, 80, 100};
    for (int what = 0; what < 10; what++) {
      Due.is("at first: count(" + what + ")", x.count(what), atFirst[what]);
    }
    KnocksThroughRock y = Due.mountain("k0013;k0123;k0233;k0243;k0353;k0463;k0573;k0679;k1939;");
    // 12 ROCKS, GRANITE, CLAY 3, VEIN 3, HOLLOW, FAULT 3, DUG twice, WATER 9
    int[] then = {12, 1, 1, 1, 1, 1, 1, 2, 48 + 2 + 7 + 3 + 1 + 14 + 2 + 6, 60 + 10 + 3 + 13 + 1 + 7 + 0 + 30};
    for (int what = 0; what < 10; what++) {
      Due.is("count(" + what + ")", y.count(what), then[what]);
    }
    Due.is("count(-1)", x.count(-1), -1);
    Due.is("count(10)", x.count(10), -1);
    Due.is("count of the least", x.count(Integer.MIN_VALUE), -1);
    Due.is("count of the most", x.count(Integer.MAX_VALUE), -1);
  }
}
