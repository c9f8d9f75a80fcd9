/** Numbers that keep their lowest bits, or wrap around as an int does, and those that do not. */
public final class WrapsTest {
  public static void main(String[] args) {
    lowestBits();
    lowestBitsOfTextsCellsAndCodes();
    drawsWrapAsAnInt();
    drawsWithoutTheSign();
    hoursBeyondWhatAnElementHolds();
    hoursOfKnocksAreExact();
    sumsOfPlaces();
    timesThatNoWayHas();
    Due.end();
  }

  /** "What is put in keeps its lowest bits": 8 of a byte, 16 of a short, all of an int. */
  private static void lowestBits() {
    int low = Integer.MIN_VALUE;
    int high = Integer.MAX_VALUE;
    stored(0, 0, 0, 0);
    stored(127, 127, 127, 127);
    stored(128, -128, 128, 128);
    stored(255, -1, 255, 255);
    stored(256, 0, 256, 256);
    stored(257, 1, 257, 257);
    stored(-1, -1, -1, -1);
    stored(-128, -128, -128, -128);
    stored(-129, 127, -129, -129);
    stored(-256, 0, -256, -256);
    stored(32767, -1, 32767, 32767);
    stored(32768, 0, -32768, 32768);
    stored(65535, -1, -1, 65535);
    stored(65536, 0, 0, 65536);
    stored(65537, 1, 1, 65537);
    stored(-32768, 0, -32768, -32768);
    stored(-32769, -1, 32767, -32769);
    stored(high, -1, -1, high);
    stored(low, 0, 0, low);
  }

  private static void stored(int v, int asByte, int asShort, int asInt) {
    KnocksThroughRock x = new KnocksThroughRock();
    int[] want = {asByte, asShort, asInt};
    for (int sort = 0; sort < 3; sort++) {
      x.row(sort, sort, 3);
      Due.is("put " + v, x.put(sort, 1, v), 0);
      Due.is("sort " + sort + " of " + v, x.element(sort, 1), want[sort]);
      Due.is("copied", x.copy(sort, 1, sort, 2, 1), 1);
      Due.is("sort " + sort + " of " + v + ", copied", x.element(sort, 2), want[sort]);
      Due.is("the one ahead is 0", x.element(sort, 0), 0);
    }
  }

  private static void lowestBitsOfTextsCellsAndCodes() {
    KnocksThroughRock x = new KnocksThroughRock();
    Due.row(x, 0, 0, 'd' - 256, '0' + 256, '1' + 512, ';' + 65536);
    Due.is("a text by its lowest bits", x.mountain(0), 1);
    Due.row(x, 0, 0, 'd' + 128, '0', '1', ';');
    Due.is("one bit more is another letter", x.mountain(0), -1000);
    Due.row(x, 0, 0, 256 + 19, 19 - 512, 65536);
    Due.is("cells by their lowest bits", x.listen(0, 1), 2);
    Due.row(x, 0, 0, 255, -1, 511, Integer.MAX_VALUE);
    Due.is("codes by their lowest bits: all are 255", x.safe(0, 0, 0), 1);
    Due.row(x, 0, 0, 128, -128, 127, -129);
    Due.is("codes by their lowest bits: 128 and 127", x.safe(0, 0, 0), 5);
    Due.row(x, 0, 0, 128, 0);
    Due.is("the highest knock counts", x.safe(0, 0, 1) * 10 + x.safe(0, 1, 1), 21);
    Due.row(x, 0, 0, 255, 0);
    Due.is("255 has eight knocks", x.safe(0, 7, 1) * 10 + x.safe(0, 8, 1), 21);
  }

  /** Around gang 0 in cell 6 and gang 1 in cell 13 lie VEINS whose TOIL is 10 + 4 * gang + side. */
  private static KnocksThroughRock ringed() {
    return Due.mountain("g006;g113;k0140;k0741;k1142;k0543;k0844;k1445;k1846;k1247;");
  }

  /** Both draws of these are of a z below 0, or of one that has wrapped: which is dug first? */
  private static void drawsWrapAsAnInt() {
    int[] seeds = {0, 1, -1, Integer.MAX_VALUE, Integer.MIN_VALUE, 1 << 30, -(1 << 30), 65535, 65536, 12345};
    int[] toils = {10, 12, 15, 15, 10, 10, 10, 12, 15, 10};
    for (int i = 0; i < seeds.length; i++) {
      Due.is("seeded(1, " + seeds[i] + ", 0)", ringed().seeded(1, seeds[i], 0), toils[i]);
    }
  }

  private static void drawsWithoutTheSign() {
    int[] below = {-12, -4, -13, -17, -9, -21, -16, -8};
    for (int i = 0; i < below.length; i++) {
      Due.is("both z below 0: seeded(1, " + below[i] + ", 0)", ringed().seeded(1, below[i], 0), 10 + i);
    }
    int[] above = {20, 39, 52, 36, 24, 32};
    int[] toils = {10, 11, 13, 15, 16, 17};
    for (int i = 0; i < above.length; i++) {
      Due.is("no z below 0: seeded(1, " + above[i] + ", 0)", ringed().seeded(1, above[i], 0), toils[i]);
    }
  }

  private static void hoursBeyondWhatAnElementHolds() {
    KnocksThroughRock x = new KnocksThroughRock();
    String round = "k0139;d01;k0039;d03;";
    Due.text(x, 0, round + round + round + round + round);
    for (int i = 1; i <= 109; i++) {
      Due.is("five rounds through WATER", x.mountain(0), 20);
      Due.is("hours", x.gang(0, 1), 300 * i);
      if (i == 1) {
        // Gang 1's hours are 0: only gang 0's 300 are beyond a byte.
        Due.row(x, 1, 0, 0, 1, 300);
        Due.is("300 isn't told by a byte: it would be 44", x.judge(1), 2);
        Due.row(x, 1, 1, 0, 1, 300);
        Due.is("300 is told by a short", x.judge(1), -4);
      }
    }
    Due.row(x, 1, 1, 0, 1, 32700);
    Due.is("32700 is told by a short", x.judge(1), -4);
    Due.is("hours do not end there", x.mountain(0), 20);
    Due.is("hours are an int", x.gang(0, 1), 33000);
    Due.row(x, 1, 1, 0, 1, 33000);
    Due.is("33000 isn't told by a short: it is below 0 there", x.judge(1), 2);
    Due.row(x, 1, 2, 0, 1, 33000);
    Due.is("33000 is told by an int", x.judge(1), -4);
    Due.is("image", x.image(), 33000);
    Due.is("seeded goes on from there", x.seeded(1, 0, 0), 33000);
  }

  /** Hours that differ by more than an int holds are not one number, though their ints would wrap. */
  private static void hoursOfKnocksAreExact() {
    int low = Integer.MIN_VALUE;
    int high = Integer.MAX_VALUE;
    KnocksThroughRock x = Due.mountain("k0140;");
    heard(x, 0, -4, 5, low, 1, high);
    heard(x, 0, -4, 1, high, 5, low);
    heard(x, 20, 0, 5, low, 5, low);
    heard(x, 20, 0, 5, high, 5, high);
    heard(x, 0, -4, 5, low, 5, high);
    heard(x, 1, 0, 0, low, 1, low + 3, 5, low + 4);
    heard(x, 1, 0, 0, high - 4, 1, high - 1, 5, high);
    heard(x, 0, -4, 0, 0, 0, low);
    heard(x, 0, -4, 0, 0, 0, 65536);
  }

  private static void heard(KnocksThroughRock x, int many, int least, int... row) {
    Due.row(x, 1, 2, row);
    Due.is("from, how many", x.from(1, 0), many);
    Due.is("from, the least", x.from(1, 1), least);
  }

  /** A place and a number whose sum wraps to one that is there are refused all the same. */
  private static void sumsOfPlaces() {
    KnocksThroughRock x = new KnocksThroughRock();
    int high = Integer.MAX_VALUE;
    x.row(0, 2, 100);
    x.row(1, 2, 100);
    Due.is("from 1 so many that the sum is below 0", x.copy(0, 1, 1, 0, high), -13);
    Due.is("from the most 1", x.copy(0, high, 1, 0, 1), -13);
    Due.is("from the most the most", x.copy(0, high, 1, 0, high), -13);
    Due.is("to 1 so many", x.copy(0, 0, 1, 1, high), -13);
    Due.is("to the most 100", x.copy(0, 0, 1, high, 100), -13);
    Due.is("from the least the most", x.copy(0, Integer.MIN_VALUE, 1, 0, high), -13);
    Due.is("the least from the most", x.copy(0, high, 1, high, Integer.MIN_VALUE), -13);
    Due.is("put at 256", x.put(0, 256, 1), -13);
    Due.is("put at 2 to the 16th", x.put(0, 65536, 1), -13);
    Due.is("element at -256", Due.thrownByElement(x, 0, -256), 2);
  }

  private static void timesThatNoWayHas() {
    KnocksThroughRock x = new KnocksThroughRock();
    for (int time : new int[] {Integer.MIN_VALUE, -1, 0, 65536 + 4, Integer.MAX_VALUE}) {
      Due.is("rocks at " + time, x.rocks(1, 0, 0, 1, time), 0);
      Due.is("rocks at " + time + ", own cell", x.rocks(1, 0, 3, 3, time), time == 0 ? 255 : 0);
    }
  }
}
