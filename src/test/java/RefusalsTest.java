import java.util.function.ToLongFunction;

/**
 * "Answers of several refusals are the first one as they are told at the call", and "A refused call
 * changes nothing": every call refused in every way, on an object with something of all there is.
 */
public final class RefusalsTest {
  // What lies on the shelves of a stage.
  private static final int NOTHING = 0;
  private static final int VEIN = 1;
  private static final int BYTES = 2;
  private static final int SHORTS = 3;
  private static final int INTS = 4;
  private static final int MANY = 5;
  private static final int ODD = 6;
  private static final int TEXT = 7;

  private static final int LOW = Integer.MIN_VALUE;
  private static final int HIGH = Integer.MAX_VALUE;

  private static String before;

  public static void main(String[] args) {
    before = Seen.of(stage());
    Due.is("the stage is told whole: " + before, before.length() > 400 ? 1 : 0, 1);
    mountains();
    cellsAndGangs();
    knocks();
    rowsOfKnocks();
    meetings();
    codes();
    seedsAndDigs();
    images();
    shelves();
    elements();
    copies();
    rocksOnShelves();
    textsWithFaults();
    answersThatOnlyTell();
    Due.end();
  }

  private static KnocksThroughRock stage() {
    KnocksThroughRock x = new KnocksThroughRock();
    Due.text(x, TEXT, "k0239;k0745;k1269;d02;d13;");
    x.mountain(TEXT);
    x.image();
    x.dig(0, 1);
    x.dig(1, 0);
    x.keep(VEIN, 1, Due.VEIN, 3);
    Due.row(x, BYTES, 0, 1, 7, -1, 0, 19);
    Due.row(x, SHORTS, 1, 0, 1, 5);
    Due.row(x, INTS, 2, 0, 10, 19, 26);
    x.row(MANY, 0, 21);
    x.put(MANY, 20, -1);
    Due.row(x, ODD, 2, 20, 10, -1);
    return x;
  }

  private static void refused(String call, ToLongFunction<KnocksThroughRock> made, long want) {
    KnocksThroughRock x = stage();
    Due.is(call, made.applyAsLong(x), want);
    same(call, x);
  }

  private static void same(String call, KnocksThroughRock x) {
    String after = Seen.of(x);
    Due.is(call + " changes nothing; then there is\n" + after, after.equals(before) ? 1 : 0, 1);
  }

  private static void mountains() {
    for (int d : new int[] {-1, 8, LOW, HIGH}) {
      refused("mountain(" + d + ")", x -> x.mountain(d), -1);
    }
    refused("mountain of nothing", x -> x.mountain(NOTHING), -11);
    refused("mountain of a ROCK", x -> x.mountain(VEIN), -12);
    refused("mountain of shorts", x -> x.mountain(SHORTS), -12);
    refused("mountain of ints", x -> x.mountain(INTS), -12);
    refused("mountain of strange bytes", x -> x.mountain(BYTES), -1000);
  }

  private static void cellsAndGangs() {
    refused("cell(20, 0)", x -> x.cell(20, 0), -1);
    refused("cell(0, 5)", x -> x.cell(0, 5), -1);
    refused("lay on cell 20", x -> x.lay(VEIN, 20), -1);
    refused("lay on cell -1", x -> x.lay(VEIN, -1), -1);
    refused("lay of shelf 8", x -> x.lay(8, 3), -1);
    refused("lay of shelf 8, cell 20", x -> x.lay(8, 20), -1);
    refused("lay of nothing", x -> x.lay(NOTHING, 3), -11);
    refused("lay of nothing on cell 20: -1 goes ahead", x -> x.lay(NOTHING, 20), -1);
    refused("lay of a ROW", x -> x.lay(BYTES, 3), -12);
    refused("lay of a ROW on cell -1: -1 goes ahead", x -> x.lay(BYTES, -1), -1);
    refused("gang(2, 0)", x -> x.gang(2, 0), -1);
    refused("gang(0, 2)", x -> x.gang(0, 2), -1);
    // Gang 0 is in cell 6: one step to the left, and it is at the edge.
    refused("dig(2, 1)", x -> x.dig(2, 1), -1);
    refused("dig(0, 4)", x -> x.dig(0, 4), -1);
    refused("dig(-1, 1)", x -> x.dig(-1, 1), -1);
    refused("dig(0, -1)", x -> x.dig(0, -1), -1);
    KnocksThroughRock edge = stage();
    edge.dig(0, 3);
    String there = Seen.mountainOf(edge);
    Due.is("dig where no neighbour is", edge.dig(0, 3), -3);
    Due.is("a refused dig changes nothing", Seen.mountainOf(edge).equals(there) ? 1 : 0, 1);
    Due.is("dig(-1, 3) there: -1 goes ahead", edge.dig(-1, 3), -1);
    Due.is("dig(0, 7) there: -1 goes ahead", edge.dig(0, 7), -1);
    Due.is("a refused dig changes nothing still", Seen.mountainOf(edge).equals(there) ? 1 : 0, 1);
  }

  private static void knocks() {
    refused("time(0, 20)", x -> x.time(0, 20), -1);
    refused("loud(0, 0, 100)", x -> x.loud(0, 0, 100), -1);
    refused("paths(20, 0)", x -> x.paths(20, 0), -1);
    refused("reaches(0, 0)", x -> x.reaches(0, 0), -1);
    refused("rocks of cell 20", x -> x.rocks(20, 0, 0, 1, 4), -1);
    refused("rocks of figure 10", x -> x.rocks(0, 10, 0, 1, 4), -1);
    refused("rocks from 20", x -> x.rocks(0, 0, 20, 1, 4), -1);
    refused("rocks to 20", x -> x.rocks(0, 0, 0, 20, 4), -1);
  }

  private static void rowsOfKnocks() {
    refused("from(8, 0)", x -> x.from(8, 0), -1);
    refused("from of ints, what 2", x -> x.from(INTS, 2), -1);
    refused("from of nothing, what 2: -1 goes ahead", x -> x.from(NOTHING, 2), -1);
    refused("from of bytes, what -1: -1 goes ahead", x -> x.from(BYTES, -1), -1);
    refused("from of an odd size, what 2: -1 goes ahead", x -> x.from(ODD, 2), -1);
    refused("from of nothing", x -> x.from(NOTHING, 0), -11);
    refused("from of a ROCK", x -> x.from(VEIN, 0), -12);
    refused("from of shorts of an odd size: -12 goes ahead", x -> x.from(SHORTS, 0), -12);
    refused("from of bytes of an odd size: -12 goes ahead", x -> x.from(BYTES, 1), -12);
    refused("from of an odd size", x -> x.from(ODD, 0), -13);
    refused("from of an odd size, which", x -> x.from(ODD, 1), -13);

    refused("listen(8, 0)", x -> x.listen(8, 0), -1);
    refused("listen of nothing, what 2: -1 goes ahead", x -> x.listen(NOTHING, 2), -1);
    refused("listen of ints, what 2: -1 goes ahead", x -> x.listen(INTS, 2), -1);
    refused("listen of 21, what -1: -1 goes ahead", x -> x.listen(MANY, -1), -1);
    refused("listen of nothing", x -> x.listen(NOTHING, 1), -11);
    refused("listen of a ROCK", x -> x.listen(VEIN, 0), -12);
    refused("listen of shorts", x -> x.listen(SHORTS, 0), -12);
    refused("listen of ints that tell cell 26: -12 goes ahead", x -> x.listen(INTS, 0), -12);
    refused("listen of 21", x -> x.listen(MANY, 0), -13);
    refused("listen to cell -1", x -> x.listen(BYTES, 0), -13);
    KnocksThroughRock none = stage();
    none.row(BYTES, 0, 0);
    Due.is("listen of an empty ROW, what 2: -1 goes ahead", none.listen(BYTES, 2), -1);
    Due.is("listen of an empty ROW", none.listen(BYTES, 0), -4);
    none.row(BYTES, 1, 0);
    Due.is("listen of an empty ROW of shorts: -12 goes ahead", none.listen(BYTES, 0), -12);
  }

  private static void meetings() {
    refused("side(2, 0)", x -> x.side(2, 0), -1);
    refused("side(-1, 0)", x -> x.side(-1, 0), -1);
    refused("side(0, 2)", x -> x.side(0, 2), -1);
    refused("side(0, -1)", x -> x.side(0, -1), -1);
  }

  private static void codes() {
    refused("taken(256, 0, 0)", x -> x.taken(256, 0, 0), -1);
    refused("taken(0, -1, 0)", x -> x.taken(0, -1, 0), -1);
    refused("taken(0, 0, 9)", x -> x.taken(0, 0, 9), -1);
    refused("safe(-1, 0, 0)", x -> x.safe(-1, 0, 0), -1);
    refused("safe of nothing, e 9: -1 goes ahead", x -> x.safe(NOTHING, 9, 0), -1);
    refused("safe of nothing, what 2: -1 goes ahead", x -> x.safe(NOTHING, 0, 2), -1);
    refused("safe of ints, e -1: -1 goes ahead", x -> x.safe(INTS, -1, 0), -1);
    refused("safe of 21, e 9: -1 goes ahead", x -> x.safe(MANY, 9, 0), -1);
    refused("safe of 21, what -1: -1 goes ahead", x -> x.safe(MANY, 0, -1), -1);
    refused("safe of nothing", x -> x.safe(NOTHING, 0, 0), -11);
    refused("safe of a ROCK", x -> x.safe(VEIN, 0, 0), -12);
    refused("safe of shorts", x -> x.safe(SHORTS, 0, 0), -12);
    refused("safe of ints", x -> x.safe(INTS, 0, 1), -12);
    refused("safe of 21", x -> x.safe(MANY, 0, 0), -13);
    KnocksThroughRock many = stage();
    many.row(SHORTS, 1, 9);
    Due.is("safe of 9 shorts: -12 goes ahead", many.safe(SHORTS, 0, 0), -12);
  }

  private static void seedsAndDigs() {
    refused("seeded(0, 5, 0)", x -> x.seeded(0, 5, 0), -1);
    refused("seeded(41, 5, 0)", x -> x.seeded(41, 5, 0), -1);
    refused("seeded(1, 5, 2)", x -> x.seeded(1, 5, 2), -1);
    refused("judge(8)", x -> x.judge(8), -1);
    refused("judge(-1)", x -> x.judge(-1), -1);
    refused("judge of nothing", x -> x.judge(NOTHING), -11);
    refused("judge of a ROCK", x -> x.judge(VEIN), -12);
  }

  private static void images() {
    refused("count(10)", x -> x.count(10), -1);
    refused("count(-1)", x -> x.count(-1), -1);
    KnocksThroughRock x = new KnocksThroughRock();
    KnocksThroughRock twin = new KnocksThroughRock();
    x.dig(0, 1);
    twin.dig(0, 1);
    Due.is("restore without an image", x.restore(), -3);
    Due.is("it changes nothing", Seen.of(x).equals(Seen.of(twin)) ? 1 : 0, 1);
  }

  private static void shelves() {
    refused("keep on shelf 8", x -> x.keep(8, 1, 0, 0), -1);
    refused("keep nothing on shelf -1", x -> x.keep(-1, 0, 0, 0), -1);
    for (int d : new int[] {NOTHING, VEIN, BYTES}) {
      refused("keep what 2 on shelf " + d, x -> x.keep(d, 2, 0, 0), -1);
      refused("keep what -1 on shelf " + d, x -> x.keep(d, -1, 0, 0), -1);
      refused("keep of kind 8 on shelf " + d, x -> x.keep(d, 1, 8, 0), -1);
      refused("keep of kind -1 on shelf " + d, x -> x.keep(d, 1, -1, 0), -1);
      refused("keep of figure 10 on shelf " + d, x -> x.keep(d, 1, 0, 10), -1);
      refused("keep of figure -1 on shelf " + d, x -> x.keep(d, 1, 0, -1), -1);
      refused("row of sort 3 on shelf " + d, x -> x.row(d, 3, 1), -1);
      refused("row of sort -1 on shelf " + d, x -> x.row(d, -1, 1), -1);
      refused("row of 101 on shelf " + d, x -> x.row(d, 0, 101), -1);
      refused("row of -1 on shelf " + d, x -> x.row(d, 0, -1), -14);
      refused("row of sort 3 and -1: -1 goes ahead", x -> x.row(d, 3, -1), -1);
    }
    refused("row on shelf 8", x -> x.row(8, 0, 1), -1);
    refused("row of -1 on shelf 8: -1 goes ahead", x -> x.row(8, 0, -1), -1);
    refused("row of -1 on shelf -1: -1 goes ahead", x -> x.row(-1, 0, -1), -1);
    refused("put on shelf 8", x -> x.put(8, 0, 9), -1);
    refused("put on shelf -1, place -1: -1 goes ahead", x -> x.put(-1, -1, 9), -1);
    refused("put in nothing", x -> x.put(NOTHING, 0, 9), -11);
    refused("put in nothing, place -1: -11 goes ahead", x -> x.put(NOTHING, -1, 9), -11);
    refused("put in a ROCK", x -> x.put(VEIN, 0, 9), -12);
    refused("put in a ROCK, place 100: -12 goes ahead", x -> x.put(VEIN, 100, 9), -12);
    refused("put at place 5 of 5", x -> x.put(BYTES, 5, 9), -13);
    refused("put at place -1", x -> x.put(BYTES, -1, 9), -13);
  }

  private static void elements() {
    // 1 is IllegalArgumentException, 2 IllegalStateException
    refused("element of shelf 8", x -> Due.thrownByElement(x, 8, 0), 1);
    refused("element of shelf -1", x -> Due.thrownByElement(x, -1, 0), 1);
    refused("element of shelf 8, place -1: the shelf goes ahead", x -> Due.thrownByElement(x, 8, -1), 1);
    refused("element of nothing", x -> Due.thrownByElement(x, NOTHING, 0), 2);
    refused("element of a ROCK", x -> Due.thrownByElement(x, VEIN, 0), 2);
    refused("element 5 of 5", x -> Due.thrownByElement(x, BYTES, 5), 2);
    refused("element -1", x -> Due.thrownByElement(x, BYTES, -1), 2);
  }

  private static void copies() {
    refused("copy of shelf 8", x -> x.copy(8, 0, BYTES, 0, 1), -1);
    refused("copy to shelf 8", x -> x.copy(BYTES, 0, 8, 0, 1), -1);
    refused("copy of shelf -1 to nothing: -1 goes ahead", x -> x.copy(-1, 0, NOTHING, 0, 1), -1);
    refused("copy of nothing to shelf 8: -1 goes ahead", x -> x.copy(NOTHING, 0, 8, 0, 1), -1);
    refused("copy of a ROCK to shelf 8: -1 goes ahead", x -> x.copy(VEIN, 0, 8, 0, 1), -1);
    refused("copy of nothing", x -> x.copy(NOTHING, 0, BYTES, 0, 1), -11);
    refused("copy to nothing", x -> x.copy(BYTES, 0, NOTHING, 0, 1), -11);
    refused("copy of a ROCK to nothing: -11 goes ahead", x -> x.copy(VEIN, 0, NOTHING, 0, 1), -11);
    refused("copy of nothing to a ROCK: -11 goes ahead", x -> x.copy(NOTHING, 0, VEIN, 0, 1), -11);
    refused("copy of -1 to nothing: -11 goes ahead", x -> x.copy(BYTES, 0, NOTHING, 0, -1), -11);
    refused("copy of a ROCK", x -> x.copy(VEIN, 0, BYTES, 0, 1), -12);
    refused("copy to a ROCK", x -> x.copy(BYTES, 0, VEIN, 0, 1), -12);
    refused("copy of a ROCK to a ROCK", x -> x.copy(VEIN, 0, VEIN, 0, 0), -12);
    refused("copy of bytes to shorts", x -> x.copy(BYTES, 0, SHORTS, 0, 1), -12);
    refused("copy of ints to bytes", x -> x.copy(INTS, 0, BYTES, 0, 0), -12);
    refused("copy of -1 bytes to ints: -12 goes ahead", x -> x.copy(BYTES, 0, INTS, 0, -1), -12);
    refused("copy from -1 of a ROCK: -12 goes ahead", x -> x.copy(VEIN, -1, BYTES, 0, 1), -12);
    refused("copy of -1", x -> x.copy(BYTES, 0, MANY, 0, -1), -13);
    refused("copy from -1", x -> x.copy(BYTES, -1, MANY, 0, 1), -13);
    refused("copy to -1", x -> x.copy(BYTES, 0, MANY, -1, 1), -13);
    refused("copy of 5 from 1 of 5", x -> x.copy(BYTES, 1, MANY, 0, 5), -13);
    refused("copy of 5 to 17 of 21", x -> x.copy(BYTES, 0, MANY, 17, 5), -13);
    refused("copy on itself beyond the end", x -> x.copy(BYTES, 0, BYTES, 1, 5), -13);
    refused("copy of the most from 1", x -> x.copy(BYTES, 1, MANY, 1, HIGH), -13);
    refused("copy of 1 from the most", x -> x.copy(BYTES, HIGH, MANY, 0, 1), -13);
    refused("copy of 1 to the most", x -> x.copy(BYTES, 0, MANY, HIGH, 1), -13);
    refused("copy of the least", x -> x.copy(BYTES, 0, MANY, 0, LOW), -13);
    refused("copy from the least", x -> x.copy(BYTES, LOW, MANY, 0, HIGH), -13);
  }

  private static void rocksOnShelves() {
    refused("pay(8)", x -> x.pay(8), -1);
    refused("pay of nothing", x -> x.pay(NOTHING), -11);
    refused("pay of a ROW", x -> x.pay(BYTES), -12);
    refused("toss(-1)", x -> x.toss(-1), -1);
    refused("toss of nothing", x -> x.toss(NOTHING), -11);
    refused("toss of a ROW", x -> x.toss(INTS), -12);
    KnocksThroughRock x = stage();
    x.keep(VEIN, 1, Due.DUG, 9);
    Due.is("toss of what is DUG", x.toss(VEIN), -15);
    x.lay(VEIN, 4);
    Due.is("it stays: kind", x.cell(4, 0), Due.DUG);
    Due.is("it stays: figure", x.cell(4, 1), 9);
  }

  private static void textsWithFaults() {
    String[] texts = {
      "", "k0011;k00", "k0011;g000;d00;", "k0011;g004;d01;", "k0011;k2000;", "d03;g300;", "g007;g017;d02;x",
      "k0011;k0080;", "k0011;g220;", "d03;d21;", "d03;d04;",
    };
    int[] due = {-1000, -1009, -2011, -2011, -2006, -2004, -1014, -2006, -2006, -2004, -2004};
    for (int i = 0; i < texts.length; i++) {
      KnocksThroughRock x = stage();
      Due.text(x, TEXT, texts[i]);
      Due.is("mountain of " + texts[i], x.mountain(TEXT), due[i]);
      Due.text(x, TEXT, "k0239;k0745;k1269;d02;d13;");
      same("a text with a fault, " + texts[i] + ",", x);
    }
  }

  /** What is done in mind, and what is told alone; "the ROW that is read .. stay[s] there". */
  private static void answersThatOnlyTell() {
    KnocksThroughRock x = stage();
    x.time(0, 19);
    x.loud(0, 19, 50);
    x.paths(0, 19);
    x.reaches(6, 20);
    x.from(INTS, 0);
    x.from(INTS, 1);
    Due.is("rocks", x.rocks(7, 9, 6, 8, 3) >= 0 ? 1 : 0, 1);
    Due.is("toils", x.toils() >= 0 ? 1 : 0, 1);
    Due.is("soon", x.soon() >= 0 ? 1 : 0, 1);
    Due.is("side", x.side(0, 1) + x.side(1, 0) >= 0 ? 1 : 0, 1);
    Due.is("seeded", x.seeded(40, 9, 0) > 0 ? 1 : 0, 1);
    x.safe(BYTES, 1, 0);
    x.judge(BYTES);
    x.judge(SHORTS);
    x.met();
    x.count(9);
    x.pay(VEIN);
    x.toss(VEIN);
    x.copy(BYTES, 5, MANY, 21, 0);
    same("answers that only tell", x);
    KnocksThroughRock y = stage();
    y.listen(SHORTS, 0);
    y.lay(VEIN, 3);
    y.mountain(TEXT);
    y.restore();
    y.dig(0, 1);
    y.dig(1, 0);
    same("what is taken from a shelf stays there, the image too: this", y);
  }
}
