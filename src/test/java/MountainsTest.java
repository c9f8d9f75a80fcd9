/** Promises 1 to 7: a new object, mountain, cell, lay, gang, dig, met. */
public final class MountainsTest {
  public static void main(String[] args) {
    aNewObject();
    kindsOfCells();
    readsAMountain();
    tellsStrayBytes();
    tellsStrayStatements();
    refusesToRead();
    lays();
    gangs();
    digs();
    meets();
    Due.end();
  }

  private static void aNewObject() {
    KnocksThroughRock x = new KnocksThroughRock();
    for (int c = 0; c < 20; c++) {
      Due.is("new: kind of " + c, x.cell(c, 0), Due.ROCK);
      Due.is("new: figure of " + c, x.cell(c, 1), 0);
    }
    Due.is("new: gang 0", x.gang(0, 0), 0);
    Due.is("new: gang 1", x.gang(1, 0), 19);
    Due.is("new: hours 0", x.gang(0, 1), 0);
    Due.is("new: hours 1", x.gang(1, 1), 0);
    for (int d = 0; d < 8; d++) {
      Due.is("new: shelf " + d, x.pay(d), -11);
      Due.is("new: shelf " + d, x.put(d, 0, 0), -11);
    }
    Due.is("new: no image", x.restore(), -3);
  }

  private static void kindsOfCells() {
    for (int f = 0; f < 10; f++) {
      KnocksThroughRock x = new KnocksThroughRock();
      int[] slow = {4, 2, 4 + f, (4 + f) / 2, 3, 1, 8 + 2 * f, 1};
      int[] loss = {2, 1, 5, f > 5 ? 0 : 5 - f, 0, 2, 5 + f, 1};
      int[] toil = {5, 10, 3, 3 * f + 3, 10 + f, 1, 7, 0};
      for (int k = 0; k < 8; k++) {
        x.keep(0, 1, k, f);
        Due.is("lay of kind " + k, x.lay(0, 12), k == 0 ? 0 : k - 1);
        String which = "kind " + k + " figure " + f + ": ";
        Due.is(which + "kind", x.cell(12, 0), k);
        Due.is(which + "figure", x.cell(12, 1), f);
        Due.is(which + "slow", x.cell(12, 2), slow[k]);
        Due.is(which + "loss", x.cell(12, 3), loss[k]);
        Due.is(which + "toil", x.cell(12, 4), toil[k]);
      }
    }
    KnocksThroughRock x = new KnocksThroughRock();
    Due.is("cell(-1, 0)", x.cell(-1, 0), -1);
    Due.is("cell(20, 4)", x.cell(20, 4), -1);
    Due.is("cell(19, 4)", x.cell(19, 4), 5);
    Due.is("cell(0, 5)", x.cell(0, 5), -1);
    Due.is("cell(0, -1)", x.cell(0, -1), -1);
    Due.is("cell(least, least)", x.cell(Integer.MIN_VALUE, Integer.MIN_VALUE), -1);
    Due.is("cell(most, 0)", x.cell(Integer.MAX_VALUE, 0), -1);
  }

  private static void readsAMountain() {
    KnocksThroughRock x = new KnocksThroughRock();
    Due.reads(x, "k0749;g003;g119;k1979;", 4);
    Due.is("kind", x.cell(7, 0), Due.VEIN);
    Due.is("figure", x.cell(7, 1), 9);
    Due.is("kind of the last", x.cell(19, 0), Due.DUG);
    Due.is("figure of the last", x.cell(19, 1), 9);
    Due.is("gang 0", x.gang(0, 0), 3);
    Due.is("the text stays", x.element(7, 0), 'k');
    Due.is("the same again", x.mountain(7), 4);
    Due.reads(x, "k0131;g000;d01;d02;", 4);
    Due.is("each on what those ahead made: toil of WATER and of ROCK", x.gang(0, 1), 6 + 5);
    Due.is("it is there", x.gang(0, 0), 6);
    Due.is("it is dug", x.cell(1, 0), Due.DUG);
    Due.is("without a figure", x.cell(1, 1), 0);
    Due.is("what was read ahead stays", x.cell(7, 0), Due.VEIN);
    Due.is("a gang is put without toil", x.cell(0, 0), Due.ROCK);

    KnocksThroughRock y = new KnocksThroughRock();
    StringBuilder long100 = new StringBuilder();
    for (int i = 0; i < 12; i++) {
      long100.append("d01;d03;");
    }
    Due.reads(y, long100.append("d02;").toString(), 25);
    Due.is("hours of 25 digs", y.gang(0, 1), 15);
    Due.is("place after 25 digs", y.gang(0, 0), 5);
  }

  private static void tellsStrayBytes() {
    KnocksThroughRock x = new KnocksThroughRock();
    Due.reads(x, "", -1000);
    Due.reads(x, ";", -1000);
    Due.reads(x, "K0000;", -1000);
    Due.reads(x, "k", -1001);
    Due.reads(x, "kx", -1001);
    Due.reads(x, "k0", -1002);
    Due.reads(x, "k010", -1004);
    Due.reads(x, "k0100", -1005);
    Due.reads(x, "k0100:", -1005);
    Due.reads(x, "k010/;", -1004);
    Due.reads(x, "k010:;", -1004);
    Due.reads(x, "k01000;", -1005);
    Due.reads(x, "g00;", -1003);
    Due.reads(x, "g0019;", -1004);
    Due.reads(x, "d0;", -1002);
    Due.reads(x, "d01;d", -1005);
    Due.reads(x, "d01; d01;", -1004);
    Due.reads(x, "d01;;", -1004);
    Due.reads(x, "k2000;d01", -1009);
    Due.reads(x, "d00;x", -1004);
    Due.row(x, 7, 0, 'd', '0', '1', ';', -1);
    Due.is("a byte below 0", x.mountain(7), -1004);
    Due.row(x, 7, 0, 'd' + 256, '0' - 256, '1', ';');
    Due.is("the lowest bits of bytes", x.mountain(7), 1);
    Due.is("nothing else came", x.gang(0, 1), 5);
  }

  private static void tellsStrayStatements() {
    KnocksThroughRock x = new KnocksThroughRock();
    Due.reads(x, "k2000;", -2000);
    Due.reads(x, "k9900;", -2000);
    Due.reads(x, "k0080;", -2000);
    Due.reads(x, "k0019;k0090;", -2006);
    Due.reads(x, "g200;", -2000);
    Due.reads(x, "g020;", -2000);
    Due.reads(x, "d21;", -2000);
    Due.reads(x, "d04;", -2000);
    Due.reads(x, "d00;", -2000);
    Due.reads(x, "d03;", -2000);
    Due.reads(x, "d11;", -2000);
    Due.reads(x, "d12;", -2000);
    Due.reads(x, "d01;d03;g104;d11;k3000;", -2013);
    Due.reads(x, "k0110;g007;d01;d01;d01;", -2019);
    Due.is("with a fault nothing comes: cell", x.cell(1, 0), Due.ROCK);
    Due.is("with a fault nothing comes: gang", x.gang(0, 0), 0);
    Due.is("with a fault nothing comes: hours", x.gang(0, 1), 0);
    Due.is("with a fault nothing comes: kinds", x.count(0), 20);
    Due.reads(x, "d02;", 1);
    Due.is("nor later", x.gang(0, 0) * 100 + x.gang(0, 1), 505);
    Due.is("what is dug alone is not ROCK", x.count(0), 19);
  }

  private static void refusesToRead() {
    KnocksThroughRock x = new KnocksThroughRock();
    Due.is("mountain(-1)", x.mountain(-1), -1);
    Due.is("mountain(8)", x.mountain(8), -1);
    Due.is("mountain of nothing", x.mountain(7), -11);
    x.keep(7, 1, 0, 0);
    Due.is("mountain of a ROCK", x.mountain(7), -12);
    Due.row(x, 7, 1, 'd', '0', '1', ';');
    Due.is("mountain of shorts", x.mountain(7), -12);
    Due.row(x, 7, 2, 'd', '0', '1', ';');
    Due.is("mountain of ints", x.mountain(7), -12);
  }

  private static void lays() {
    KnocksThroughRock x = new KnocksThroughRock();
    Due.is("lay(8, 0)", x.lay(8, 0), -1);
    Due.is("lay(-1, 0)", x.lay(-1, 0), -1);
    Due.is("lay(0, 20): the cell goes ahead of the shelf", x.lay(0, 20), -1);
    Due.is("lay(0, -1)", x.lay(0, -1), -1);
    Due.is("lay(0, 0) of nothing", x.lay(0, 0), -11);
    x.row(0, 0, 1);
    Due.is("lay(0, 0) of a ROW", x.lay(0, 0), -12);
    x.keep(0, 1, Due.VEIN, 3);
    Due.is("lay on ROCK", x.lay(0, 1), Due.ROCK);
    Due.is("lay again", x.lay(0, 19), Due.ROCK);
    Due.is("laid kind", x.cell(1, 0), Due.VEIN);
    Due.is("laid figure", x.cell(1, 1), 3);
    Due.is("it stays on the shelf", x.toss(0), 200 + 6 * 4);
    Due.is("dig through it", x.dig(0, 1), 13);
    Due.is("the shelf's is not dug", x.toss(0), 200 + 6 * 4);
    Due.is("nor the other cell", x.cell(19, 0), Due.VEIN);
    x.keep(0, 1, Due.CLAY, 1);
    Due.is("lay on what is dug", x.lay(0, 1), Due.DUG);
    x.keep(0, 0, 0, 0);
    Due.is("the cell keeps what was laid", x.cell(1, 0), Due.CLAY);
  }

  private static void gangs() {
    KnocksThroughRock x = new KnocksThroughRock();
    Due.is("gang(-1, 0)", x.gang(-1, 0), -1);
    Due.is("gang(2, 0)", x.gang(2, 0), -1);
    Due.is("gang(0, -1)", x.gang(0, -1), -1);
    Due.is("gang(1, 2)", x.gang(1, 2), -1);
    x.dig(1, 3);
    Due.is("gang(1, 0)", x.gang(1, 0), 18);
    Due.is("gang(1, 1)", x.gang(1, 1), 5);
    Due.is("gang(0, 1)", x.gang(0, 1), 0);
  }

  private static void digs() {
    KnocksThroughRock x = Due.mountain("k0139;k0614;k1160;g107;");
    Due.is("dig(-1, 0)", x.dig(-1, 0), -1);
    Due.is("dig(2, 1)", x.dig(2, 1), -1);
    Due.is("dig(0, -1)", x.dig(0, -1), -1);
    Due.is("dig(0, 4)", x.dig(0, 4), -1);
    Due.is("no neighbour above", x.dig(0, 0), -3);
    Due.is("no neighbour to the left", x.dig(0, 3), -3);
    Due.is("to the right", x.dig(0, 1), 30);
    Due.is("down", x.dig(0, 2), 10);
    Due.is("down again", x.dig(0, 2), 7);
    Due.is("to the left", x.dig(0, 3), 5);
    Due.is("up", x.dig(0, 0), 5);
    Due.is("to the right, dug", x.dig(0, 1), 0);
    Due.is("hours", x.gang(0, 1), 57);
    Due.is("place", x.gang(0, 0), 6);
    Due.is("dug", x.cell(11, 0), Due.DUG);
    Due.is("figure 0", x.cell(6, 1), 0);
    Due.is("five are dug", x.count(7), 5);
    Due.is("the other one has dug nothing", x.gang(1, 1), 0);
    Due.is("into the cell of the other one", x.dig(0, 1), 5);
    Due.is("both there", x.gang(1, 0) * 100 + x.gang(0, 0), 707);

    KnocksThroughRock y = Due.mountain("g004;g115;");
    Due.is("no neighbour to the right of 4", y.dig(0, 1), -3);
    Due.is("no neighbour above 4", y.dig(0, 0), -3);
    Due.is("no neighbour to the left of 15", y.dig(1, 3), -3);
    Due.is("no neighbour below 15", y.dig(1, 2), -3);
    Due.is("refused digs change nothing", y.gang(0, 1) + y.gang(1, 1) + y.count(7), 0);
    Due.is("no neighbour round the edge", y.gang(0, 0) * 100 + y.gang(1, 0), 415);
  }

  private static void meets() {
    Due.is("met at first", new KnocksThroughRock().met(), 0);
    Due.is("in one cell", Due.mountain("g007;g107;").met(), 1);
    Due.is("above", Due.mountain("g007;g102;").met(), 1);
    Due.is("right", Due.mountain("g007;g108;").met(), 1);
    Due.is("below", Due.mountain("g007;g112;").met(), 1);
    Due.is("left", Due.mountain("g007;g106;").met(), 1);
    Due.is("over a corner", Due.mountain("g007;g101;").met(), 0);
    Due.is("two on", Due.mountain("g007;g109;").met(), 0);
    Due.is("round the edge", Due.mountain("g004;g105;").met(), 0);
    Due.is("round the edge, the other way", Due.mountain("g010;g109;").met(), 0);
  }
}
