import java.util.function.ToLongFunction;

/** "At most 512 calls": the last is answered as the first. */
public final class ManyCallsTest {
  private static final int CALLS = 512;

  public static void main(String[] args) {
    String kinds = "k0019;k0129;k0239;k0349;k0459;k0569;k0679;k0701;"
        + "k0811;k0921;k1031;k1141;k1251;k1361;k1471;g112;";
    many("mountain", x -> x.mountain(0), kinds, 16);
    many("mountain with a FAULT", x -> x.mountain(0), kinds.substring(0, 90) + "g112;d", -1096);
    many("time", x -> x.time(0, 19), "d01;", 28);
    many("loud", x -> x.loud(0, 19, 99), "d01;", 85);
    many("paths", x -> x.paths(0, 19), "d01;", 35);
    many("reaches", x -> x.reaches(0, 99), "d01;", (1 << 20) - 1);
    many("rocks", x -> x.rocks(1, 0, 0, 1, 4), "d01;", 5);
    many("toils", x -> x.toils(), "d01;", 30);
    many("soon", x -> x.soon(), "d01;", 15);
    many("side", x -> x.side(0, 0), "d01;", 1);
    many("seeded", x -> x.seeded(40, 5, 0), "d01;", 60);
    many("taken", x -> x.taken(255, 0, 8), "d01;", 1);
    many("safe of too many", x -> x.safe(0, 0, 0), kinds, -13);
    many("safe", x -> x.safe(0, 0, 1), "d01;", 4);
    many("listen to no cells", x -> x.listen(0, 0), "d01;", -13);
    many("judge", x -> x.judge(0), "d01;", 0);
    many("count", x -> x.count(9), "d01;", 100);
    many("image", x -> x.image(), "d01;", 0);
    many("restore", x -> x.restore(), "d01;", -3);
    many("keep", x -> x.keep(0, 1, 4, 9), "d01;", 0);
    many("row", x -> x.row(0, 2, 100), "d01;", 0);
    many("copy", x -> x.copy(0, 0, 0, 0, 95), kinds, 95);
    listenAndFrom();
    tosses();
    digsToAndFro();
    Due.end();
  }

  private static void many(String call, ToLongFunction<KnocksThroughRock> made, String text, long want) {
    KnocksThroughRock x = new KnocksThroughRock();
    Due.text(x, 0, text);
    repeat(call, x, CALLS - 1 - text.length(), made, want);
  }

  private static void repeat(String call, KnocksThroughRock x, int times, ToLongFunction<KnocksThroughRock> made,
      long want) {
    int wrong = 0;
    for (int i = 0; i < times; i++) {
      wrong += made.applyAsLong(x) == want ? 0 : 1;
    }
    Due.is(call + " answers wrongly " + wrong + " of " + times + " times", wrong, 0);
  }

  private static void listenAndFrom() {
    KnocksThroughRock x = new KnocksThroughRock();
    x.row(0, 0, 20);
    x.row(1, 2, 100);
    repeat("listen", x, 250, y -> y.listen(0, 1), 20);
    repeat("from", x, 250, y -> y.from(1, 0), 20);
  }

  private static void tosses() {
    KnocksThroughRock x = new KnocksThroughRock();
    int wrong = 0;
    for (int i = 0; i < CALLS / 2; i++) {
      x.keep(0, 1, i % 8, 1 + i % 9);
      wrong += x.toss(0) == failure(i % 8, 1 + i % 9) ? 0 : 1;
    }
    Due.is("tosses answered wrongly", wrong, 0);
  }

  private static int failure(int kind, int figure) {
    switch (kind) {
      case Due.WATER:
        return 100 + figure;
      case Due.VEIN:
        return 200 + (3 + figure) * (figure + 1);
      case Due.DUG:
        return -15;
      default:
        return figure;
    }
  }

  private static void digsToAndFro() {
    KnocksThroughRock x = new KnocksThroughRock();
    repeat("dig to a side", x, 1, y -> y.dig(0, 1), 5);
    repeat("dig back", x, 1, y -> y.dig(0, 3), 5);
    repeat("dig to and fro", x, 254, y -> y.dig(0, 1) + y.dig(0, 3), 0);
    Due.is("the 511th call", x.gang(0, 1), 10);
    Due.is("the 512th call", x.time(0, 19), 28 - 3);
  }
}
