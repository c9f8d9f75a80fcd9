/** What the tests share: answers are compared, the wrong ones printed and counted. */
final class Due {
  static final int ROCK = 0;
  static final int GRANITE = 1;
  static final int CLAY = 2;
  static final int WATER = 3;
  static final int VEIN = 4;
  static final int HOLLOW = 5;
  static final int FAULT = 6;
  static final int DUG = 7;

  private static int wrong = 0;
  private static int looked = 0;

  private Due() {}

  static void is(String call, long got, long want) {
    looked++;
    if (got != want) {
      wrong++;
      System.out.println(call + " answered " + got + ", due is " + want);
    }
  }

  /** 1 IllegalArgumentException, 2 IllegalStateException, 3 another one, 0 nothing is thrown. */
  static int thrownByElement(KnocksThroughRock x, int d, int i) {
    try {
      x.element(d, i);
      return 0;
    } catch (IllegalArgumentException e) {
      return e.getClass() == IllegalArgumentException.class ? 1 : 3;
    } catch (IllegalStateException e) {
      return e.getClass() == IllegalStateException.class ? 2 : 3;
    } catch (RuntimeException e) {
      return 3;
    }
  }

  /** Puts a ROW of a SORT with these elements on a SHELF. */
  static void row(KnocksThroughRock x, int d, int sort, int... elements) {
    is("row(" + d + ", " + sort + ", " + elements.length + ")", x.row(d, sort, elements.length), 0);
    for (int i = 0; i < elements.length; i++) {
      is("put(" + d + ", " + i + ", " + elements[i] + ")", x.put(d, i, elements[i]), 0);
    }
  }

  static void text(KnocksThroughRock x, int d, String text) {
    int[] bytes = new int[text.length()];
    for (int i = 0; i < bytes.length; i++) {
      bytes[i] = text.charAt(i);
    }
    row(x, d, 0, bytes);
  }

  static void reads(KnocksThroughRock x, String text, int want) {
    text(x, 7, text);
    is("mountain of " + text, x.mountain(7), want);
  }

  /** A new object whose MOUNTAIN is what a text without FAULT makes of a new one. */
  static KnocksThroughRock mountain(String text) {
    KnocksThroughRock x = new KnocksThroughRock();
    int statements = 0;
    for (int i = 0; i < text.length(); i++) {
      if (text.charAt(i) == ';') {
        statements++;
      }
    }
    reads(x, text, statements);
    x.keep(7, 0, 0, 0);
    return x;
  }

  static void end() {
    System.out.println(looked + " answers looked at, " + wrong + " not as due");
    if (wrong != 0 || looked == 0) {
      System.exit(1);
    }
  }
}
