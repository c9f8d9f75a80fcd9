/** The FAULTS of texts: which byte, which STATEMENT, which kind goes ahead, and that nothing comes. */
public final class FaultsTest {
  private static final String GOOD = "k0749;g003;d01;";

  public static void main(String[] args) {
    endsTooEarly();
    everyByteAtEveryPlace();
    theFirstStrayByte();
    strayBytesGoAheadOfStatements();
    theFirstStatementThatIsNotAsTold();
    eachOnWhatThoseAheadMade();
    placesFarBehind();
    withAFaultNothingComes();
    withoutFaultAllOfItComes();
    Due.end();
  }

  /** "The size, if it ends too early": cut anywhere but behind a STATEMENT, and cut to nothing. */
  private static void endsTooEarly() {
    for (int size = 0; size <= GOOD.length(); size++) {
      int whole = size == 15 ? 3 : size == 11 ? 2 : size == 6 ? 1 : 0;
      Due.reads(new KnocksThroughRock(), GOOD.substring(0, size), whole > 0 ? whole : -1000 - size);
    }
  }

  private static void everyByteAtEveryPlace() {
    for (int place = 0; place < GOOD.length(); place++) {
      for (int b = -128; b < 128; b++) {
        KnocksThroughRock x = new KnocksThroughRock();
        Due.text(x, 7, GOOD);
        x.put(7, place, b);
        int got = x.mountain(7);
        String call = "mountain of " + GOOD + " with " + b + " at " + place;
        char was = GOOD.charAt(place);
        if (was >= '0' && was <= '9') {
          boolean isDigit = b >= 48 && b <= 57;
          Due.is(call + ": " + got, got == -1000 - place ? 1 : 0, isDigit ? 0 : 1);
        } else if (was == ';') {
          Due.is(call, got, b == 59 ? 3 : -1000 - place);
        } else {
          Due.is(call, got, b == was ? 3 : otherLetter(b, place));
        }
      }
    }
  }

  /** Another letter wants more digits, or fewer: the byte behind those that are there is the stray one. */
  private static int otherLetter(int b, int place) {
    int letter = place == 0 ? 4 : place == 6 ? 3 : 2;
    int wants = b == 'k' ? 4 : b == 'g' ? 3 : b == 'd' ? 2 : -1;
    return wants < 0 ? -1000 - place : -1000 - (place + 1 + Math.min(letter, wants));
  }

  private static void theFirstStrayByte() {
    KnocksThroughRock x = new KnocksThroughRock();
    Due.reads(x, "x", -1000);
    Due.reads(x, "kx;x", -1001);
    Due.reads(x, "d01;d0;d0;", -1006);
    Due.reads(x, "d01x;x", -1003);
    Due.reads(x, "d01;;", -1004);
    Due.reads(x, " d01;", -1000);
    Due.reads(x, "d01; ", -1004);
    Due.reads(x, "D01;", -1000);
    Due.reads(x, "d-1;", -1001);
    Due.reads(x, "d+1;", -1001);
    Due.reads(x, "7", -1000);
    Due.reads(x, ";d01;", -1000);
  }

  private static void strayBytesGoAheadOfStatements() {
    KnocksThroughRock x = new KnocksThroughRock();
    Due.reads(x, "k2000;x", -1006);
    Due.reads(x, "d00;d03;k", -1009);
    Due.reads(x, "g900;d01;d01", -1012);
    Due.reads(x, "d00;;", -1004);
    Due.reads(x, "d00;d0x;", -1006);
    Due.reads(x, "d00;d00;", -2000);
  }

  private static void theFirstStatementThatIsNotAsTold() {
    KnocksThroughRock x = new KnocksThroughRock();
    Due.reads(x, "d01;k2000;g200;", -2004);
    Due.reads(x, "d01;g200;k2000;", -2004);
    Due.reads(x, "k2080;", -2000);
    Due.reads(x, "k0080;", -2000);
    Due.reads(x, "k1979;", 1);
    Due.reads(x, "g220;", -2000);
    Due.reads(x, "g119;", 1);
    Due.reads(x, "d94;", -2000);
    Due.reads(x, "d13;", 1);
  }

  private static void eachOnWhatThoseAheadMade() {
    Due.reads(new KnocksThroughRock(), "d01;d03;d03;", -2008);
    Due.reads(new KnocksThroughRock(), "g004;d01;", -2005);
    Due.reads(new KnocksThroughRock(), "g003;d01;d01;", -2009);
    Due.reads(new KnocksThroughRock(), "d00;g005;", -2000);
    Due.reads(new KnocksThroughRock(), "g005;d00;", 2);
    Due.reads(new KnocksThroughRock(), "g115;d13;", -2005);
    Due.reads(new KnocksThroughRock(), "g115;d11;d13;d13;", -2013);
    KnocksThroughRock x = Due.mountain("k0139;d01;k0139;d03;d01;d03;");
    Due.is("WATER is dug, laid and dug once more", x.gang(0, 1), 30 + 5 + 30 + 0);
    KnocksThroughRock y = Due.mountain("g001;k0139;d01;");
    Due.is("under a gang there may be anything", y.cell(1, 0), Due.WATER);
    Due.is("the last one told is so", Due.mountain("k0011;k0022;k0033;").cell(0, 0), 3);
    Due.is("the last place told is so", Due.mountain("g001;g002;g019;").gang(0, 0), 19);
  }

  private static void placesFarBehind() {
    StringBuilder text = new StringBuilder();
    for (int i = 0; i < 24; i++) {
      text.append(i % 2 == 0 ? "d01;" : "d03;");
    }
    Due.reads(new KnocksThroughRock(), text + "d03;", -2096);
    Due.reads(new KnocksThroughRock(), text + "d03:", -1099);
    Due.reads(new KnocksThroughRock(), text + "k001", -1100);
    Due.reads(new KnocksThroughRock(), text + "d02;", 25);
  }

  /** Neither what is told ahead of the FAULT comes, nor what is told behind it. */
  private static void withAFaultNothingComes() {
    String[] texts = {
      "k0139;g007;g108;d01;d02;x", "k0139;g007;g108;d01;d02;d", "k0139;g007;g108;d01;d02;d04;",
      "k0139;g007;g108;d01;d02;k9900;", "d04;k0139;g007;g108;", "d00;k0139;g007;g108;d01;",
    };
    for (String text : texts) {
      KnocksThroughRock x = Due.mountain("k0655;d01;d10;");
      String before = Seen.mountainOf(x);
      Due.text(x, 7, text);
      Due.is("a FAULT in " + text, x.mountain(7) <= -1000 ? 1 : 0, 1);
      Due.is("nothing comes of " + text, Seen.mountainOf(x).equals(before) ? 1 : 0, 1);
      Due.reads(x, "d02;", 1);
      Due.is("nor later, of " + text, x.gang(0, 0) * 100 + x.gang(1, 0), 614);
      Due.is("nor in HOURS, of " + text, x.gang(0, 1) * 100 + x.gang(1, 1), 605);
    }
  }

  private static void withoutFaultAllOfItComes() {
    KnocksThroughRock x = Due.mountain("k0139;g007;g108;d02;d12;k1169;");
    int[] kinds = {17, 0, 0, 1, 0, 0, 1, 1};
    for (int kind = 0; kind < 8; kind++) {
      Due.is("cells of kind " + kind, x.count(kind), kind == 0 ? 16 : kind == 7 ? 2 : kinds[kind]);
    }
    Due.is("gangs", x.gang(0, 0) * 100 + x.gang(1, 0), 1213);
    Due.is("hours", x.gang(0, 1) * 100 + x.gang(1, 1), 505);
    Due.reads(x, "k0011;", 1);
    Due.is("what was so stays so", x.cell(1, 0) * 100 + x.cell(11, 0) * 10 + x.cell(0, 0), 361);
    Due.is("the gangs stay where they are", x.gang(0, 0) * 100 + x.gang(1, 0), 1213);
    Due.is("the hours stay as they are", x.gang(0, 1) * 100 + x.gang(1, 1), 505);
    Due.reads(x, "g012;g100;", 2);
    Due.is("a gang that is put elsewhere keeps its hours", x.gang(0, 1) * 100 + x.gang(1, 1), 505);
    Due.is("and digs nothing there", x.cell(0, 0), 1);
  }
}
