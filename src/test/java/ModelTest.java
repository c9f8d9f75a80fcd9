/** All promises: runs of drawn calls, ordinary and wrong ones, answered as the Model answers. */
public final class ModelTest {
  private static final int RUNS = 60;
  private static final int CALLS = 512;
  private static final int[] EDGES = {-1, Integer.MIN_VALUE, Integer.MAX_VALUE, 8, 20, 100, -2, 256};

  private static long seed = 20261118;
  private static KnocksThroughRock x;
  private static Model m;
  private static int calls;

  public static void main(String[] args) {
    for (int run = 0; run < RUNS; run++) {
      x = new KnocksThroughRock();
      m = new Model();
      calls = 0;
      while (calls < CALLS) {
        step(run);
      }
    }
    Due.end();
  }

  private static int below(int n) {
    seed = (seed * 6364136223846793005L + 1442695040888963407L);
    return (int) ((seed >>> 33) % n);
  }

  /** A number below n mostly, seldom one that is not. */
  private static int arg(int n) {
    int r = below(60);
    return r == 0 ? EDGES[below(EDGES.length)] : r == 1 ? n : below(n);
  }

  private static void same(String call, int run, long got, long want) {
    calls++;
    if (calls <= CALLS) {
      Due.is("run " + run + ", call " + calls + ": " + call, got, want);
    }
  }

  private static void step(int run) {
    int a = arg(20);
    int b = arg(20);
    int d = arg(8);
    switch (below(34)) {
      case 0: case 1: case 2: readText(run); break;
      case 3: { int w = arg(5); same("cell " + a + " " + w, run, x.cell(a, w), m.cell(a, w)); break; }
      case 4: same("lay " + d + " " + a, run, x.lay(d, a), m.lay(d, a)); break;
      case 5: { int g = arg(2); int w = arg(2); same("gang " + g + " " + w, run, x.gang(g, w), m.gang(g, w)); break; }
      case 6: case 7: { int g = arg(2); int s = arg(4); same("dig " + g + " " + s, run, x.dig(g, s), m.dig(g, s)); break; }
      case 8: same("met", run, x.met(), m.met()); break;
      case 9: same("time " + a + " " + b, run, x.time(a, b), m.time(a, b)); break;
      case 10: { int w = arg(100); same("loud " + a + " " + b + " " + w, run, x.loud(a, b, w), m.loud(a, b, w)); break; }
      case 11: same("paths " + a + " " + b, run, x.paths(a, b), m.paths(a, b)); break;
      case 12: { int w = arg(30); same("reaches " + a + " " + w, run, x.reaches(a, w), m.reaches(a, w)); break; }
      case 13: knocks(run); break;
      case 14: listens(run); break;
      case 15: rocks(run); break;
      case 16: same("toils", run, x.toils(), m.toils()); break;
      case 17: same("soon", run, x.soon(), m.soon()); break;
      case 18: { int g = arg(2); int w = arg(2); same("side " + g + " " + w, run, x.side(g, w), m.side(g, w)); break; }
      case 19: { int o = arg(256); int p = arg(256); int e = arg(9); same("taken " + o + " " + p + " " + e, run, x.taken(o, p, e), m.taken(o, p, e)); break; }
      case 20: codes(run); break;
      case 21: { int n = arg(41); int z = below(1 << 30) * 4 + below(4); int w = arg(2); same("seeded " + n + " " + z, run, x.seeded(n, z, w), m.seeded(n, z, w)); break; }
      case 22: judges(run); break;
      case 23: same("image", run, x.image(), m.image()); break;
      case 24: same("restore", run, x.restore(), m.restore()); break;
      case 25: { int w = arg(10); same("count " + w, run, x.count(w), m.count(w)); break; }
      case 26: case 27: { int w = arg(2); int k = arg(8); int f = arg(10); same("keep " + d + " " + w + " " + k + " " + f, run, x.keep(d, w, k, f), m.keep(d, w, k, f)); break; }
      case 28: { int s = arg(3); int n = below(4) == 0 ? arg(101) : arg(7); same("row " + d + " " + s + " " + n, run, x.row(d, s, n), m.row(d, s, n)); break; }
      case 29: { int i = arg(7); int v = below(3) == 0 ? below(1 << 30) * 4 : arg(300) - 150; same("put " + d + " " + i + " " + v, run, x.put(d, i, v), m.put(d, i, v)); break; }
      case 30: { int i = arg(7); same("element " + d + " " + i, run, element(d, i), m.element(d, i)); break; }
      case 31: { int e = arg(8); int i = arg(4); int j = arg(4); int n = arg(5); same("copy " + d + " " + i + " " + e + " " + j + " " + n, run, x.copy(d, i, e, j, n), m.copy(d, i, e, j, n)); break; }
      case 32: same("pay " + d, run, x.pay(d), m.pay(d)); break;
      default: same("toss " + d, run, x.toss(d), m.toss(d));
    }
    if (below(20) == 0) {
      onAnyShelf(run, d);
    }
  }

  private static void onAnyShelf(int run, int d) {
    int w = arg(2);
    same("mountain " + d, run, x.mountain(d), m.mountain(d));
    same("from " + d + " " + w, run, x.from(d, w), m.from(d, w));
    same("listen " + d + " " + w, run, x.listen(d, w), m.listen(d, w));
    same("safe " + d + " " + w, run, x.safe(d, 1, w), m.safe(d, 1, w));
    same("judge " + d, run, x.judge(d), m.judge(d));
  }

  private static long element(int d, int i) {
    try {
      return x.element(d, i);
    } catch (IllegalArgumentException e) {
      return 1L << 40;
    } catch (IllegalStateException e) {
      return 1L << 41;
    }
  }

  private static void fill(int run, int d, int sort, int[] elements) {
    same("row " + d + " " + sort + " " + elements.length, run, x.row(d, sort, elements.length), m.row(d, sort, elements.length));
    for (int i = 0; i < elements.length; i++) {
      same("put " + d + " " + i + " " + elements[i], run, x.put(d, i, elements[i]), m.put(d, i, elements[i]));
    }
  }

  private static void readText(int run) {
    StringBuilder text = new StringBuilder();
    for (int left = below(4); left >= 0; left--) {
      switch (below(8)) {
        case 0:
          text.append('g').append(below(20) == 0 ? 2 : below(2));
          cell(text);
          break;
        case 1:
          text.append('d').append(below(20) == 0 ? 2 : below(2)).append(below(20) == 0 ? 4 : below(4));
          break;
        default:
          text.append('k');
          cell(text);
          text.append(below(20) == 0 ? 9 : below(8)).append(below(10));
      }
      text.append(';');
    }
    if (below(6) == 0) {
      int at = below(text.length());
      switch (below(3)) {
        case 0: text.setLength(at); break;
        case 1: text.setCharAt(at, "kgd;059:/ x".charAt(below(11))); break;
        default: text.insert(at, "kgd;059".charAt(below(7)));
      }
    }
    int[] bytes = new int[text.length()];
    for (int i = 0; i < bytes.length; i++) {
      bytes[i] = text.charAt(i);
    }
    int d = below(8);
    fill(run, d, 0, bytes);
    same("mountain " + text, run, x.mountain(d), m.mountain(d));
  }

  private static void cell(StringBuilder text) {
    int c = below(25) == 0 ? 20 + below(80) : below(20);
    text.append(c / 10).append(c % 10);
  }

  private static void knocks(int run) {
    int d = below(8);
    int[] row = new int[2 * below(4) + (below(15) == 0 ? 1 : 0)];
    int from = below(20);
    int hour = below(3) == 0 ? Integer.MAX_VALUE - 40 : below(100);
    for (int i = 0; i + 1 < row.length; i += 2) {
      row[i] = below(25) == 0 ? arg(20) : below(20);
      row[i + 1] = hour + (row[i] >= 0 && row[i] < 20 && below(10) != 0 ? m.time(from, row[i]) : below(9));
    }
    fill(run, d, 2, row);
    same("from " + d + " 0", run, x.from(d, 0), m.from(d, 0));
    same("from " + d + " 1", run, x.from(d, 1), m.from(d, 1));
  }

  private static void listens(int run) {
    int d = below(8);
    int[] row = new int[below(12) == 0 ? 19 + below(3) : below(9)];
    for (int i = 0; i < row.length; i++) {
      row[i] = below(80) == 0 ? arg(20) : below(20);
    }
    fill(run, d, 0, row);
    same("listen " + d + " 0", run, x.listen(d, 0), m.listen(d, 0));
    same("listen " + d + " 1", run, x.listen(d, 1), m.listen(d, 1));
  }

  private static void rocks(int run) {
    int c = arg(20);
    int f = arg(10);
    int from = arg(20);
    int to = arg(20);
    int told = m.time(from, to) + (below(3) == 0 ? below(9) - 4 : 0);
    same("rocks " + c + " " + f + " " + from + " " + to + " " + told, run,
        x.rocks(c, f, from, to, told), m.rocks(c, f, from, to, told));
  }

  private static void codes(int run) {
    int d = below(8);
    int[] row = new int[below(10)];
    for (int i = 0; i < row.length; i++) {
      row[i] = below(256);
    }
    fill(run, d, 0, row);
    for (int more = 0; more < 2; more++) {
      int e = below(3) == 0 ? arg(9) : below(4);
      same("safe " + d + " " + e + " 0", run, x.safe(d, e, 0), m.safe(d, e, 0));
      same("safe " + d + " " + e + " 1", run, x.safe(d, e, 1), m.safe(d, e, 1));
    }
  }

  private static void judges(int run) {
    int d = below(8);
    int[] row = new int[below(13)];
    KnocksThroughRock spare = x;
    int[] places = {spare.gang(0, 0), spare.gang(1, 0)};
    calls += 2;
    int[] hours = m.hours.clone();
    int[] kind = m.kind.clone();
    int[] figure = m.figure.clone();
    for (int i = 0; i + 2 < row.length; i += 3) {
      int g = below(2);
      int side = below(4);
      int px = places[g] % 5 + (side == 1 ? 1 : side == 3 ? -1 : 0);
      int py = places[g] / 5 + (side == 2 ? 1 : side == 0 ? -1 : 0);
      if (px >= 0 && px < 5 && py >= 0 && py < 4) {
        int to = py * 5 + px;
        hours[g] += Model.toil(kind[to], figure[to]);
        places[g] = to;
        kind[to] = 7;
        figure[to] = 0;
      }
      row[i] = below(12) == 0 ? arg(2) : g;
      row[i + 1] = below(12) == 0 ? arg(4) : side;
      row[i + 2] = hours[g] + (below(12) == 0 ? 1 : 0);
    }
    fill(run, d, below(3), row);
    same("judge " + d, run, x.judge(d), m.judge(d));
  }
}
