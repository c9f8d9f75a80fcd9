/** Promises 15 to 17: toils, soon, side. */
public final class MeetTest {
  public static void main(String[] args) {
    toils();
    soon();
    sides();
    Due.end();
  }

  private static void toils() {
    Due.is("through ROCK", new KnocksThroughRock().toils(), 30);
    Due.is("in one cell", Due.mountain("g007;g107;").toils(), 0);
    Due.is("neighbours", Due.mountain("g007;g108;k0710;k0810;").toils(), 0);
    Due.is("through what is dug", Due.mountain("g005;g108;k0670;k0770;").toils(), 0);
    KnocksThroughRock x = Due.mountain("g005;g107;k0639;k0549;k0749;k0170;k0050;k0250;");
    Due.is("round WATER: 0 1 2", x.toils(), 2);
    x.keep(0, 1, Due.WATER, 9);
    x.lay(0, 1);
    x.lay(0, 11);
    Due.is("through WATER, or round by ROCK", x.toils(), 25);
    Due.is("the same again", x.toils(), 25);
    Due.is("it is in mind alone", x.gang(0, 1) + x.gang(0, 0), 5);
  }

  private static void soon() {
    Due.is("through ROCK", new KnocksThroughRock().soon(), 15);
    Due.is("met in one cell", Due.mountain("g007;g107;").soon(), 0);
    Due.is("met as neighbours", Due.mountain("g007;g112;k0739;k1239;").soon(), 0);
    Due.is("one between them", Due.mountain("g006;g108;").soon(), 5);
    Due.is("GRANITE between them, or round it", Due.mountain("g006;g108;k0710;").soon(), 10);
    Due.is("WATER: one goes round three, the other one comes up", Due.mountain("g006;g108;k0739;").soon(), 10);
    KnocksThroughRock x = Due.mountain("g000;g103;k0139;k0539;k0250;");
    Due.is("one behind WATER has to dig it, while the other one comes near", x.soon(), 30);
    x.keep(0, 1, Due.DUG, 0);
    x.lay(0, 1);
    Due.is("nothing to dig but a HOLLOW", x.soon(), 1);
    Due.is("it is in mind alone", x.gang(0, 0) * 100 + x.gang(1, 0), 3);
    x.dig(1, 3);
    Due.is("hours so far do not count", x.soon(), 0);
    Due.is("in a corner", Due.mountain("g001;g110;k0639;").soon(), 5);
    Due.is("one behind the other, up", Due.mountain("g015;g100;k0139;k0639;k1139;k1639;").soon(), 5);
    Due.is("one behind the other, down", Due.mountain("g000;g115;k0139;k0639;k1139;k1639;").soon(), 5);
    Due.is("the greater of the two, not both", Due.mountain("g000;g104;k0110;k0210;k0310;").soon(), 15);
  }

  private static void sides() {
    KnocksThroughRock x = new KnocksThroughRock();
    side(x, 0, 1, 15);
    side(x, 1, 0, 15);
    side(Due.mountain("g006;g108;"), 0, 1, 0);
    side(Due.mountain("g006;g108;"), 1, 3, 0);
    side(Due.mountain("g007;g107;"), 0, 0, 0);
    side(Due.mountain("g007;g102;"), 0, 0, 0);
    side(Due.mountain("g004;g119;"), 0, 2, 5);
    side(Due.mountain("g004;g119;"), 1, 0, 5);
    side(Due.mountain("g015;g119;"), 0, 1, 5);
    side(Due.mountain("g000;g110;k0539;"), 0, 2, 0);
    KnocksThroughRock y = Due.mountain("g001;g100;");
    Due.is("side of gang 0 who has met", y.side(0, 0), 3);
    Due.is("where the other one is", y.side(0, 1), 0);
    Due.is("it is in mind alone", y.gang(0, 0) + y.gang(0, 1) + y.count(7), 1);
    Due.is("side(-1, 0)", x.side(-1, 0), -1);
    Due.is("side(2, 0)", x.side(2, 0), -1);
    Due.is("side(0, -1)", x.side(0, -1), -1);
    Due.is("side(0, 2)", x.side(0, 2), -1);
    Due.is("it is as it was", x.count(0), 20);
  }

  private static void side(KnocksThroughRock x, int gang, int side, int soon) {
    Due.is("side of gang " + gang, x.side(gang, 0), side);
    Due.is("soon then of gang " + gang, x.side(gang, 1), soon);
  }
}
