/** Where several answers would do, which one is told; and what is told where none does. */
public final class SeveralTest {
  public static void main(String[] args) {
    theLeastCellFromWhereKnocksCame();
    theLeastCellToListenAt();
    noneToListenTo();
    theFirstSide();
    theLeastSetOfCodes();
    sidesOfTaken();
    behindHowManyTheyMeet();
    hoursOfBothTogether();
    theFirstThatIsNotSo();
    theLastThreeThatAreNotWhole();
    imagesAreTakenAndRestored();
    allOfAnImage();
    Due.end();
  }

  private static void from(KnocksThroughRock x, int many, int least, int... row) {
    Due.row(x, 1, 2, row);
    Due.is("from: how many", x.from(1, 0), many);
    Due.is("from: the least", x.from(1, 1), least);
  }

  private static void theLeastCellFromWhereKnocksCame() {
    KnocksThroughRock x = new KnocksThroughRock();
    // As far from 0 as from 4: the middle column. As far from 15 as well: cell 7 or 12 alone may be.
    from(x, 4, 2, 0, 9, 4, 9);
    from(x, 4, 2, 4, 9, 0, 9);
    from(x, 1, 7, 0, 9, 4, 9, 15, 13);
    from(x, 0, -4, 0, 9, 4, 9, 15, 14);
    // The hour of the knock itself is any number, also one below 0.
    from(x, 1, 19, 19, -100, 0, -72, 18, -96, 14, -96);
    from(x, 1, 0, 19, 28, 0, 0);
    from(x, 20, 0, 7, 1, 7, 1);
    from(x, 0, -4, 7, 1, 7, 2);
    // TIME goes from the knock to where it is told: into WATER of FIGURE 9 it is 6, out of it 4.
    KnocksThroughRock water = Due.mountain("k0139;");
    from(water, 1, 0, 0, 10, 1, 16, 2, 20);
    from(water, 1, 1, 1, 10, 0, 14, 2, 14);
  }

  private static void listen(KnocksThroughRock x, int cell, int number, int... row) {
    Due.row(x, 2, 0, row);
    Due.is("listen: where", x.listen(2, 0), cell);
    Due.is("listen: the number", x.listen(2, 1), number);
  }

  private static void theLeastCellToListenAt() {
    KnocksThroughRock x = new KnocksThroughRock();
    listen(x, 0, 1, 7);
    listen(x, 0, 1, 19);
    listen(x, 0, 2, 7, 7);
    listen(x, 0, 20, 7, 7, 7, 7, 7, 7, 7, 7, 7, 7, 7, 7, 7, 7, 7, 7, 7, 7, 7, 7);
    // From 18 it is six steps, four, two, none: nowhere else all four differ.
    listen(x, 18, 1, 0, 4, 14, 18);
    listen(x, 18, 1, 18, 14, 4, 0);
    // Every cell is as far from 1 as from 5, or two steps farther: the first that is.
    listen(x, 1, 1, 1, 5);
    // One place of a CELL counts as one: three and one are worse than two and two.
    listen(x, 0, 2, 0, 0, 19, 19);
    listen(x, 1, 2, 1, 1, 5, 5);
    // TIME goes to where it is listened: from the FAULT in 1 it is no farther to 0 than from 5.
    listen(Due.mountain("k0169;"), 1, 1, 1, 5);
    // Nor is it nearer from GRANITE in 1.
    listen(Due.mountain("k0110;"), 1, 1, 1, 5);
  }

  private static void noneToListenTo() {
    KnocksThroughRock x = new KnocksThroughRock();
    x.row(2, 0, 0);
    Due.is("an empty ROW: where", x.listen(2, 0), -4);
    Due.is("an empty ROW: the number", x.listen(2, 1), -4);
    x.row(2, 2, 0);
    Due.is("from an empty ROW: all", x.from(2, 0), 20);
    Due.is("from an empty ROW: the least", x.from(2, 1), 0);
    x.row(2, 0, 0);
    Due.is("safe of an empty ROW: the set", x.safe(2, 0, 0), 0);
    Due.is("safe of an empty ROW: how many", x.safe(2, 0, 1), 0);
    Due.is("judge of an empty ROW", x.judge(2), -4);
  }

  private static void side(String text, int gang, int side, int soon) {
    KnocksThroughRock x = Due.mountain(text);
    Due.is("side, " + text, x.side(gang, 0), side);
    Due.is("soon then, " + text, x.side(gang, 1), soon);
    x.dig(gang, side);
    Due.is("dug so it is so, " + text, x.soon(), soon);
  }

  private static void theFirstSide() {
    side("g007;g107;", 0, 0, 0);
    side("g007;g107;", 1, 0, 0);
    side("g002;g102;", 0, 1, 0);
    side("g004;g104;", 0, 2, 0);
    side("g000;g100;", 1, 1, 0);
    side("g015;g115;", 1, 0, 0);
    side("g010;g114;", 0, 1, 5);
    side("g010;g114;", 1, 3, 5);
    // Up, right, down and left are one as good as the other to who has DUG all around.
    side("g007;g109;k0370;k1370;k0870;k0470;k1470;", 0, 0, 0);
    // HOLLOWS all along the edge are the better way, though it turns off: by 1 to 0, 5, 10.
    side("g002;g117;k0050;k0550;k1050;k1550;k1650;k0639;k1139;k1239;", 0, 3, 3);
  }

  private static void safe(int e, int set, int many, int... codes) {
    KnocksThroughRock x = new KnocksThroughRock();
    Due.row(x, 3, 0, codes);
    Due.is("the safe set, e " + e, x.safe(3, e, 0), set);
    Due.is("how many are safe, e " + e, x.safe(3, e, 1), many);
  }

  private static void theLeastSetOfCodes() {
    // Four pairs, in each of which one is taken for the other: the first of each.
    safe(1, 85, 4, 0, 1, 6, 7, 24, 25, 96, 97);
    safe(0, 255, 8, 0, 1, 6, 7, 24, 25, 96, 97);
    // Two are better than the one ahead of them, which is taken for both.
    safe(1, 6, 2, 3, 5, 10);
    // One alone: the first.
    safe(8, 1, 1, 1, 2, 4, 8, 16, 32, 64, 128);
    safe(0, 1, 1, 9);
    safe(8, 1, 1, 9);
    safe(0, 1, 1, 9, 9);
    safe(0, 5, 2, 9, 9, 8);
    safe(0, 3, 2, 9, 8, 9);
  }

  private static void sidesOfTaken() {
    KnocksThroughRock x = new KnocksThroughRock();
    for (int knocks = 0; knocks <= 8; knocks++) {
      int code = (1 << knocks) - 1;
      for (int e = 0; e <= 8; e++) {
        int due = knocks <= e ? 1 : 0;
        Due.is(code + " for 0, e " + e, x.taken(code, 0, e), due);
        Due.is("0 for " + code + ", e " + e, x.taken(0, code, e), due);
        Due.is("itself: " + code + ", e " + e, x.taken(code, code, e), 1);
      }
    }
    for (int e = 0; e <= 8; e++) {
      Due.is("four knocks each, e " + e, x.taken(240, 15, e), e >= 4 ? 1 : 0);
      Due.is("one and three, e " + e, x.taken(1, 14, e), e >= 3 ? 1 : 0);
      Due.is("three and one, e " + e, x.taken(14, 1, e), e >= 3 ? 1 : 0);
    }
  }

  private static void behindHowManyTheyMeet() {
    // Seed 0 draws gang 0 up, right, left.
    KnocksThroughRock x = Due.mountain("g000;g102;");
    Due.is("the first time there is no NEIGHBOUR", x.seeded(1, 0, 1), -4);
    Due.is("no hours then", x.seeded(1, 0, 0), 0);
    Due.is("behind two times", x.seeded(2, 0, 1), 2);
    Due.is("five hours then", x.seeded(2, 0, 0), 5);
    Due.is("the first meeting, though they part", x.seeded(3, 0, 1), 2);
    Due.is("ten hours then", x.seeded(3, 0, 0), 10);
    Due.is("met now", Due.mountain("g000;g101;").seeded(40, 0, 1), 0);
    Due.is("met now in one cell", Due.mountain("g003;g103;").seeded(1, 0, 1), 0);
    Due.is("never", new KnocksThroughRock().seeded(40, 12345, 1), -4);
    Due.is("one before they meet", new KnocksThroughRock().seeded(12, 5, 1), -4);
    Due.is("when they meet", new KnocksThroughRock().seeded(13, 5, 1), 13);
  }

  private static void hoursOfBothTogether() {
    KnocksThroughRock x = Due.mountain("d01;d02;d10;");
    Due.is("hours so far count", x.seeded(1, 0, 0), 15 + 0);
    Due.is("image", x.image(), 15);
    x.dig(1, 0);
    x.dig(0, 1);
    Due.is("image", x.image(), 25);
    x.dig(1, 0);
    Due.is("restore", x.restore(), 25);
  }

  private static void judged(KnocksThroughRock x, int want, int... row) {
    for (int sort = 0; sort < 3; sort++) {
      Due.row(x, 4, sort, row);
      Due.is("judge, sort " + sort, x.judge(4), want);
    }
  }

  private static void theFirstThatIsNotSo() {
    KnocksThroughRock x = new KnocksThroughRock();
    judged(x, 0, -1, 0, 0);
    judged(x, 0, 2, 9, 9);
    judged(x, 1, 0, 0, 0);
    judged(x, 1, 0, 3, 0);
    judged(x, 1, 0, 4, 5);
    judged(x, 1, 0, -1, 5);
    judged(x, 1, 1, 1, 5);
    judged(x, 1, 1, 2, 5);
    judged(x, 2, 0, 1, 4);
    judged(x, 2, 0, 1, 0);
    judged(x, -4, 0, 1, 5);
    judged(x, 3, 0, 1, 5, 2, 1, 5);
    judged(x, 4, 0, 1, 5, 0, 0, 5);
    judged(x, 5, 0, 1, 5, 1, 0, 10);
    judged(x, -4, 0, 1, 5, 1, 0, 5);
    judged(x, 5, 0, 1, 5, 0, 3, 5);
    judged(x, -4, 0, 1, 5, 0, 3, 10, 0, 1, 10);
    judged(x, 2, 0, 1, 6, 0, 0, 0, 9, 9, 9);
    KnocksThroughRock later = Due.mountain("d01;d10;");
    judged(later, -4, 0, 3, 10, 1, 2, 10);
    judged(later, 2, 0, 3, 5);
    judged(later, 5, 0, 3, 10, 1, 2, 15);
  }

  private static void theLastThreeThatAreNotWhole() {
    KnocksThroughRock x = new KnocksThroughRock();
    judged(x, 0, 0);
    judged(x, 0, 0, 1);
    judged(x, 0, 9, 9);
    judged(x, 3, 0, 1, 5, 0);
    judged(x, 3, 0, 1, 5, 0, 3);
    judged(x, 3, 0, 1, 5, 9, 9);
    judged(x, 2, 0, 1, 6, 0);
    judged(x, 1, 0, 3, 5, 0, 3);
    judged(x, 0, 2, 1, 5, 0);
    judged(x, 6, 0, 1, 5, 1, 0, 5, 0);
    judged(x, 5, 0, 1, 5, 1, 0, 6, 0, 0);
  }

  private static void imagesAreTakenAndRestored() {
    KnocksThroughRock x = new KnocksThroughRock();
    Due.is("there is none", x.restore(), -3);
    Due.is("there is none still", x.restore(), -3);
    Due.is("of a new object", x.image(), 0);
    x.dig(0, 1);
    Due.is("restored", x.restore(), 0);
    Due.is("as it was", x.gang(0, 0) + x.count(7), 0);
    x.dig(0, 2);
    Due.is("restored once more", x.restore(), 0);
    Due.is("as it was once more", x.gang(0, 0) + x.count(7), 0);
    x.dig(0, 2);
    Due.is("a newer one", x.image(), 5);
    Due.is("restored at once", x.restore(), 5);
    x.dig(0, 2);
    Due.is("the newer one", x.restore(), 5);
    Due.is("as it was then", x.gang(0, 0) * 10 + x.count(7), 51);
  }

  private static void allOfAnImage() {
    KnocksThroughRock x = Due.mountain("k0139;k0245;k1969;k0078;g107;d12;d02;");
    x.keep(0, 1, Due.VEIN, 2);
    String then = Seen.mountainOf(x);
    Due.is("image", x.image(), 10);
    x.lay(0, 19);
    Due.reads(x, "k0011;k0222;g019;g100;d12;d00;", 6);
    x.keep(0, 1, Due.CLAY, 8);
    x.row(1, 1, 2);
    x.put(1, 1, 300);
    x.keep(7, 0, 0, 0);
    Due.is("restore", x.restore(), 10);
    Due.is("all is as it was", Seen.mountainOf(x).equals(then) ? 1 : 0, 1);
    Due.is("shelves stay: a ROCK", x.toss(0), 8);
    Due.is("shelves stay: a ROW", x.element(1, 1), 300);
    Due.is("shelves stay: nothing", x.pay(7), -11);
  }
}
