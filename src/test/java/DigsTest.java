/** Promises 20 and 21: seeded, judge. */
public final class DigsTest {
  public static void main(String[] args) {
    for (int z = -3; z <= 3; z++) {
      seededIsDug(z * 77777, 40, "k0134;k0600;g006;g113;d02;");
      seededIsDug(z, 9, "g000;g104;");
      seededIsDug(Integer.MAX_VALUE - z, 25, "g005;g107;k0639;");
    }
    seededRefuses();
    judges();
    Due.end();
  }

  /** The same digs, drawn here by longs and done indeed on a twin, come to the same. */
  private static void seededIsDug(int z, int n, String text) {
    KnocksThroughRock x = Due.mountain(text);
    KnocksThroughRock twin = Due.mountain(text);
    int first = twin.met() == 1 ? 0 : -4;
    long seed = z & 0xFFFFFFFFL;
    for (int i = 1; i <= n; i++) {
      seed = (seed * 1103515245L + 12345L) & 0xFFFFFFFFL;
      int gang = (int) ((seed & 0x7FFFFFFFL) >> 16) % 2;
      seed = (seed * 1103515245L + 12345L) & 0xFFFFFFFFL;
      twin.dig(gang, (int) ((seed & 0x7FFFFFFFL) >> 16) % 4);
      if (first == -4 && twin.met() == 1) {
        first = i;
      }
    }
    String call = "seeded(" + n + ", " + z + ", ..)";
    int before = x.gang(0, 1) + x.gang(1, 1);
    Due.is(call + " hours", x.seeded(n, z, 0), twin.gang(0, 1) + twin.gang(1, 1));
    Due.is(call + " met", x.seeded(n, z, 1), first);
    Due.is(call + " is in mind alone", x.gang(0, 1) + x.gang(1, 1), before);
  }

  private static void seededRefuses() {
    KnocksThroughRock x = new KnocksThroughRock();
    Due.is("seeded(0, ..)", x.seeded(0, 5, 0), -1);
    Due.is("seeded(-1, ..)", x.seeded(-1, 5, 0), -1);
    Due.is("seeded(41, ..)", x.seeded(41, 5, 0), -1);
    Due.is("seeded(.., -1)", x.seeded(1, 5, -1), -1);
    Due.is("seeded(.., 2)", x.seeded(1, 5, 2), -1);
    Due.is("seeded(40, 5, 1)", x.seeded(40, 5, 1), 13);
    Due.is("seeded(12, 5, 1): not yet", x.seeded(12, 5, 1), -4);
    Due.is("seeded(13, 5, 1): just", x.seeded(13, 5, 1), 13);
    Due.is("met now", Due.mountain("g007;g112;").seeded(1, 5, 1), 0);
  }

  private static void judges() {
    KnocksThroughRock x = new KnocksThroughRock();
    for (int sort = 0; sort < 3; sort++) {
      judge(x, sort, -4);
      judge(x, sort, 0, 0);
      judge(x, sort, 0, 5);
      judge(x, sort, 0, 0, 0);
      judge(x, sort, 1, 0, 0, 5);
      judge(x, sort, 1, 0, 3, 5);
      judge(x, sort, 1, 1, 1, 5);
      judge(x, sort, 1, 0, 4, 5);
      judge(x, sort, 1, 0, -1, 5);
      judge(x, sort, 0, 2, 1, 5);
      judge(x, sort, 0, -1, 1, 5);
      judge(x, sort, 2, 0, 1, 6);
      judge(x, sort, -4, 0, 1, 5);
      judge(x, sort, -4, 0, 1, 5, 1, 3, 5, 0, 3, 10, 0, 1, 10);
      judge(x, sort, 9, 0, 1, 5, 1, 3, 5, 0, 3, 10, 2, 1, 10);
      judge(x, sort, 10, 0, 1, 5, 1, 3, 5, 0, 3, 10, 0, 3, 10);
      judge(x, sort, 11, 0, 1, 5, 1, 3, 5, 0, 3, 10, 0, 1, 15);
      judge(x, sort, 9, 0, 1, 5, 1, 3, 5, 0, 3, 10, 0);
      judge(x, sort, 9, 0, 1, 5, 1, 3, 5, 0, 3, 10, 0, 9);
      judge(x, sort, 5, 0, 1, 5, 1, 3, 6, 0);
    }
    Due.is("it is in mind alone", x.gang(0, 1) + x.gang(1, 1) + x.count(7), 0);
    KnocksThroughRock y = Due.mountain("d01;d02;k0739;");
    judge(y, 0, -4, 0, 1, 40, 0, 3, 40);
    judge(y, 0, 2, 0, 1, 30);
    judge(y, 0, 5, 0, 1, 40, 0, 1, 40);
    Due.is("judge(-1)", x.judge(-1), -1);
    Due.is("judge(8)", x.judge(8), -1);
    Due.is("judge of nothing", x.judge(0), -11);
    x.keep(0, 1, 0, 0);
    Due.is("judge of a ROCK", x.judge(0), -12);
    x.row(0, 1, 100);
    Due.is("judge of 100 elements", x.judge(0), 1);
    hoursBeyondAByte();
  }

  private static void hoursBeyondAByte() {
    KnocksThroughRock x = Due.mountain("k0039;k0139;d01;d03;k0039;k0139;d01;d03;k0039;");
    Due.is("hours", x.gang(0, 1), 120);
    x.row(0, 0, 3);
    x.put(0, 1, 1);
    x.put(0, 2, 120);
    Due.is("120 is told by a byte", x.judge(0), -4);
    x.dig(0, 2);
    x.dig(0, 2);
    x.put(0, 1, 0);
    x.put(0, 2, 130);
    Due.is("130 isn't: its byte is below 0", x.judge(0), 2);
    Due.row(x, 1, 1, 0, 0, 130);
    Due.is("130 is told by a short", x.judge(1), -4);
  }

  private static void judge(KnocksThroughRock x, int sort, int want, int... row) {
    Due.row(x, 3, sort, row);
    Due.is("judge", x.judge(3), want);
    if (row.length > 0) {
      Due.is("the ROW stays", x.element(3, 0), row[0]);
    }
  }
}
