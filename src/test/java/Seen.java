/**
 * All that can be seen of an object, as a text: what a refused call must leave as it was. To see the
 * ROCKS on SHELVES and THE IMAGE the object is changed: it is of no use afterwards.
 */
final class Seen {
  private Seen() {}

  static String of(KnocksThroughRock x) {
    StringBuilder seen = new StringBuilder();
    mountain(x, seen);
    for (int d = 0; d < 8; d++) {
      shelf(x, d, seen);
    }
    int hours = x.restore();
    seen.append("image ").append(hours).append('\n');
    if (hours >= 0) {
      mountain(x, seen);
    }
    return seen.toString();
  }

  /** Cells and gangs alone: the object stays as it is. */
  static String mountainOf(KnocksThroughRock x) {
    StringBuilder seen = new StringBuilder();
    mountain(x, seen);
    return seen.toString();
  }

  private static void mountain(KnocksThroughRock x, StringBuilder seen) {
    for (int c = 0; c < 20; c++) {
      seen.append(x.cell(c, 0)).append('.').append(x.cell(c, 1)).append(c % 5 == 4 ? '\n' : ' ');
    }
    for (int g = 0; g < 2; g++) {
      seen.append("gang ").append(x.gang(g, 0)).append(" hours ").append(x.gang(g, 1)).append('\n');
    }
  }

  private static void shelf(KnocksThroughRock x, int d, StringBuilder seen) {
    seen.append("shelf ").append(d);
    int pay = x.pay(d);
    if (pay == -12) {
      // Only bytes can be codes, only ints can be knocks: whatever else is answered, it is not -12.
      seen.append(x.safe(d, 0, 0) != -12 ? " bytes" : x.from(d, 0) != -12 ? " ints" : " shorts");
      for (int i = 0; Due.thrownByElement(x, d, i) == 0; i++) {
        seen.append(' ').append(x.element(d, i));
      }
    } else if (pay != -11) {
      x.lay(d, 0);
      seen.append(" rock ").append(x.cell(0, 0)).append('.').append(x.cell(0, 1));
    }
    seen.append('\n');
  }
}
