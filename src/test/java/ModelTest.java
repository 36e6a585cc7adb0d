import java.util.ArrayList;
import java.util.List;
import java.util.Random;
import java.util.TreeSet;

/** Random runs of calls on the class and on a second, slow writing of the document, whose answers must agree. */
public final class ModelTest {
  private static final int UNKNOWN = -1, OUTSIDE = -2, STATE = -3, FULL = -4, NO = -5, NONE = -6;
  private static int wrong = 0;
  private static long compared = 0;

  static final class Pipe {
    int from, length, size, step;
    boolean shut, free, head, open, stands;
    int factor, need, clog, row, column, reach;
    int now() { return (int) Math.floor(factor * (100 - clog) / 100.0 + 1e-9); }
  }

  static final class Model {
    int pressure = 1000, drag = 0;
    final List<int[]> sizes = new ArrayList<>();
    final List<Pipe> pipes = new ArrayList<>();
    final List<TreeSet<Integer>> heaps = new ArrayList<>();
    int[][] kinds = new int[2][2];
    private Long[][] known = new Long[2][25];

    boolean isPipe(int i) { return i >= 0 && i < pipes.size(); }
    boolean isHead(int i) { return isPipe(i) && pipes.get(i).head; }
    boolean isSize(int i) { return i >= 0 && i < sizes.size(); }
    boolean isHeap(int i) { return i >= 0 && i < heaps.size(); }
    boolean isCell(int r, int c) { return r >= 0 && c >= 0 && r < kinds.length && c < kinds[0].length; }
    static boolean out(int n, int a, int b) { return n < a || n > b; }

    int supply(int p, int d) {
      if (out(p, 1, 100000) || out(d, 0, 4000)) return OUTSIDE;
      pressure = p; drag = d; return 1;
    }
    int size(int d, int p) {
      if (out(d, 1, 400) || out(p, 1, 1000)) return OUTSIDE;
      if (sizes.size() == 6) return FULL;
      sizes.add(new int[] {d, p}); return sizes.size() - 1;
    }
    int pipe(int from, int length, int size) {
      if (from != -1 && !isPipe(from) || !isSize(size)) return UNKNOWN;
      if (out(length, 1, 10)) return OUTSIDE;
      if (pipes.size() == 24) return FULL;
      int step = from == -1 ? 1 : pipes.get(from).step + 1;
      if (step == 9) return NO;
      Pipe p = new Pipe();
      p.from = from; p.length = length; p.size = size; p.step = step;
      pipes.add(p); return pipes.size() - 1;
    }
    int head(int i, int factor, int need) {
      if (!isPipe(i)) return UNKNOWN;
      if (out(factor, 1, 200) || out(need, 0, 30000)) return OUTSIDE;
      Pipe p = pipes.get(i);
      p.head = true; p.open = false; p.clog = 0; p.factor = factor; p.need = need; return 1;
    }
    int open(int i, boolean is) {
      if (!isHead(i)) return UNKNOWN;
      boolean was = pipes.get(i).open; pipes.get(i).open = is; return was ? 1 : 0;
    }
    int shut(int i, boolean is) {
      if (!isPipe(i)) return UNKNOWN;
      boolean was = pipes.get(i).shut; pipes.get(i).shut = is; return was ? 1 : 0;
    }
    int clog(int i, int h) {
      if (!isHead(i)) return UNKNOWN;
      if (out(h, 0, 100)) return OUTSIDE;
      int was = pipes.get(i).clog; pipes.get(i).clog = h; return was;
    }
    int resize(int i, int size) {
      if (!isPipe(i) || !isSize(size)) return UNKNOWN;
      int was = pipes.get(i).size; pipes.get(i).size = size; return was;
    }

    // ---- water, by the document's own words, from each end asked for
    static long root(long n) {
      long x = (long) Math.sqrt((double) n);
      while (x * x > n) x--;
      while ((x + 1) * (x + 1) <= n) x++;
      return x;
    }
    static long rootUp(long n) { long x = root(n); return x * x == n ? x : x + 1; }
    static long up(long n, long by) { return n % by == 0 ? n / by : n / by + 1; }
    static long rgg(long r, long g) { return Math.multiplyExact(r, Math.multiplyExact(g, g)); }
    void forget() { known = new Long[2][25]; }

    TreeSet<Integer> opened() {
      TreeSet<Integer> set = new TreeSet<>();
      for (int i = 0; i < pipes.size(); i++) if (pipes.get(i).open) set.add(i);
      return set;
    }
    long dragOf(int i) { return i == -1 ? drag : pipes.get(i).length * sizes.get(pipes.get(i).size)[0]; }
    boolean isShut(int i) { return i != -1 && pipes.get(i).shut; }
    long endG(int i, int side, TreeSet<Integer> open) {
      if (known[side][i + 1] != null) return known[side][i + 1];
      long g = open.contains(i) ? pipes.get(i).now() * 1024L : 0;
      for (int j = 0; j < pipes.size(); j++) if (pipes.get(j).from == i) g += pipeG(j, side, open);
      known[side][i + 1] = g;
      return g;
    }
    long pipeG(int i, int side, TreeSet<Integer> open) {
      if (isShut(i)) return 0;
      long g = endG(i, side, open);
      long d = Math.addExact(1L << 50, rgg(dragOf(i), g));
      return side == 0 ? g * (1L << 25) / rootUp(d) : up(g * (1L << 25), root(d));
    }
    long pressureAt(int i, int side, TreeSet<Integer> open, int supplied) {
      if (isShut(i)) return 0;
      long p = i == -1 ? supplied * 1024L : pressureAt(pipes.get(i).from, side, open, supplied);
      long x = rgg(dragOf(i), endG(i, 1 - side, open));
      long e = (1L << 30) + (side == 0 ? up(x, 1L << 20) : x / (1L << 20));
      long y = Math.multiplyExact(p, 1L << 30);
      return side == 0 ? y / e : up(y, e);
    }
    long q(int i, int side, TreeSet<Integer> open, int supplied) {
      if (!open.contains(i)) return 0;
      long p = pressureAt(i, side, open, supplied) * 1024;
      return pipes.get(i).now() * (side == 0 ? root(p) : rootUp(p));
    }
    long leastOf(TreeSet<Integer> heap, int supplied) {
      forget();
      long least = Long.MAX_VALUE;
      for (int i : heap) least = Math.min(least, q(i, 0, heap, supplied) - 1024L * pipes.get(i).need);
      return heap.isEmpty() ? 0 : least;
    }

    long conduct(int i, int side) {
      if (i != -1 && !isPipe(i)) return UNKNOWN;
      if (out(side, 0, 1)) return OUTSIDE;
      forget();
      return pipeG(i, side, opened());
    }
    long pressure(int i, int side) {
      if (i != -1 && !isPipe(i)) return UNKNOWN;
      if (out(side, 0, 1)) return OUTSIDE;
      forget();
      return pressureAt(i, side, opened(), pressure);
    }
    long flow(int i, int side) {
      if (!isHead(i)) return UNKNOWN;
      if (out(side, 0, 1)) return OUTSIDE;
      forget();
      return q(i, side, opened(), pressure);
    }
    long total(int side) {
      if (out(side, 0, 1)) return OUTSIDE;
      forget();
      long sum = 0;
      for (int i : opened()) sum += q(i, side, opened(), pressure);
      return sum;
    }
    int about(int i, int what) {
      if (!isPipe(i)) return UNKNOWN;
      Pipe p = pipes.get(i);
      int begin = 0;
      for (Pipe o : pipes) if (o.from == i) begin++;
      int[] all = {p.from, p.length, p.size, p.shut ? 1 : 0, p.head ? 1 : 0, p.now(), p.need, p.open ? 1 : 0, p.clog,
          p.free ? 1 : 0, begin};
      return out(what, 0, 10) ? OUTSIDE : all[what];
    }
    int worst() {
      forget();
      TreeSet<Integer> open = opened();
      int worst = NONE;
      long least = 0;
      for (int i : open) {
        long spare = q(i, 0, open, pressure) - 1024L * pipes.get(i).need;
        if (worst == NONE || spare < least) { worst = i; least = spare; }
      }
      return worst;
    }

    int heap() {
      if (heaps.size() == 6) return FULL;
      heaps.add(new TreeSet<>()); return heaps.size() - 1;
    }
    int put(int h, int i, boolean in) {
      if (!isHeap(h) || !isHead(i)) return UNKNOWN;
      if (in) heaps.get(h).add(i); else heaps.get(h).remove(i);
      return heaps.get(h).size();
    }
    long least(int h) { return isHeap(h) ? leastOf(heaps.get(h), pressure) : -1000000000001L; }
    int thinnest() {
      int thinnest = NONE;
      for (int h = 0; h < heaps.size(); h++) if (thinnest == NONE || least(h) < least(thinnest)) thinnest = h;
      return thinnest;
    }
    int countFree() { int n = 0; for (Pipe p : pipes) if (p.free) n++; return n; }
    int free(int i, boolean is) {
      if (!isPipe(i)) return UNKNOWN;
      if (is && !pipes.get(i).free && countFree() == 5) return FULL;
      pipes.get(i).free = is; return countFree();
    }
    long bill() { long sum = 0; for (Pipe p : pipes) sum += p.length * sizes.get(p.size)[1]; return sum; }
    /** Every choice, in order of SIZES; the first of the least price stays. */
    long choose() {
      List<Pipe> free = new ArrayList<>();
      for (Pipe p : pipes) if (p.free) free.add(p);
      int n = free.size();
      int[] had = new int[n], best = null, now = new int[n];
      for (int k = 0; k < n; k++) had[k] = free.get(k).size;
      long bestPrice = 0, all = 1;
      for (int k = 0; k < n; k++) all *= sizes.size();
      for (long c = 0; c < all; c++) {
        long rest = c;
        for (int k = n - 1; k >= 0; k--) { now[k] = (int) (rest % sizes.size()); rest /= sizes.size(); }
        for (int k = 0; k < n; k++) free.get(k).size = now[k];
        long price = bill();
        if (best != null && price >= bestPrice) continue;
        boolean met = true;
        for (TreeSet<Integer> heap : heaps) met = met && leastOf(heap, pressure) >= 0;
        if (met) { best = now.clone(); bestPrice = price; }
      }
      for (int k = 0; k < n; k++) free.get(k).size = best == null ? had[k] : best[k];
      return best == null ? NO : bestPrice;
    }
    int margin(int h) {
      if (!isHeap(h)) return UNKNOWN;
      if (leastOf(heaps.get(h), pressure) < 0) return NO;
      for (int less = 1; less <= 100; less++)
        if (leastOf(heaps.get(h), Math.max(1, (100 - less) * pressure / 100)) < 0) return less;
      return NONE;
    }

    int floor(int rows, int columns) {
      if (out(rows, 2, 16) || out(columns, 2, 16)) return OUTSIDE;
      kinds = new int[rows][columns];
      for (Pipe p : pipes) p.stands = false;
      return rows * columns;
    }
    int standsIn(int r, int c) {
      for (int i = 0; i < pipes.size(); i++)
        if (pipes.get(i).stands && pipes.get(i).row == r && pipes.get(i).column == c) return i;
      return NONE;
    }
    int cell(int r, int c, int kind) {
      if (!isCell(r, c)) return UNKNOWN;
      if (out(kind, 0, 2)) return OUTSIDE;
      if (standsIn(r, c) != NONE) return STATE;
      int was = kinds[r][c]; kinds[r][c] = kind; return was;
    }
    int stand(int i, int r, int c, int reach) {
      if (!isHead(i) || !isCell(r, c)) return UNKNOWN;
      if (out(reach, 1, 12)) return OUTSIDE;
      if (kinds[r][c] != 0 || standsIn(r, c) != NONE && standsIn(r, c) != i) return NO;
      Pipe p = pipes.get(i);
      p.stands = true; p.row = r; p.column = c; p.reach = reach; return 1;
    }
    int lift(int i) {
      if (!isHead(i)) return UNKNOWN;
      boolean was = pipes.get(i).stands; pipes.get(i).stands = false; return was ? 1 : 0;
    }
    /** The parts of the line, in 1 / (2 * scale) of it, that lie inside the cell's rows and columns. */
    static boolean cuts(int r0, int c0, int r1, int c1, int r, int c) {
      long dr = r1 - r0, dc = c1 - c0;
      long scale = Math.max(1, Math.abs(dr)) * Math.max(1, Math.abs(dc));
      long from = 0, to = 2 * scale;
      boolean fromIn = true, toIn = true; // the ends of the line belong to it, the edges of a cell do not
      long[] d = {dr, dc}, at = {2L * (r - r0), 2L * (c - c0)};
      for (int k = 0; k < 2; k++) {
        if (d[k] == 0) {
          if (Math.abs(at[k]) >= 1) return false;
          continue;
        }
        long a = (at[k] - 1) * scale / d[k], b = (at[k] + 1) * scale / d[k];
        if (a > b) { long t = a; a = b; b = t; }
        if (a >= from) { from = a; fromIn = false; }
        if (b <= to) { to = b; toIn = false; }
      }
      return from < to || from == to && fromIn && toIn;
    }
    boolean wetsCell(Pipe p, int r, int c) {
      if (kinds[r][c] != 0) return false;
      int dr = r - p.row, dc = c - p.column;
      if (dr * dr + dc * dc > p.reach * p.reach) return false;
      for (int i = 0; i < kinds.length; i++)
        for (int j = 0; j < kinds[0].length; j++)
          if (kinds[i][j] == 1 && cuts(p.row, p.column, r, c, i, j)) return false;
      return true;
    }
    int wets(int i, int r, int c) {
      if (!isHead(i) || !isCell(r, c)) return UNKNOWN;
      if (!pipes.get(i).stands) return STATE;
      return wetsCell(pipes.get(i), r, c) ? 1 : 0;
    }
    int dry(int i) {
      List<Integer> dry = new ArrayList<>();
      for (int r = 0; r < kinds.length; r++)
        for (int c = 0; c < kinds[0].length; c++) {
          boolean wet = kinds[r][c] != 0;
          for (Pipe p : pipes) wet = wet || p.stands && wetsCell(p, r, c);
          if (!wet) dry.add(16 * r + c);
        }
      if (i == -1) return dry.size();
      return i < 0 || i >= dry.size() ? NONE : dry.get(i);
    }
    int near(int d) {
      if (out(d, 1, 30)) return OUTSIDE;
      for (int i = 0; i < pipes.size(); i++)
        for (int j = 0; j < pipes.size(); j++) {
          Pipe a = pipes.get(i), b = pipes.get(j);
          int dr = a.row - b.row, dc = a.column - b.column;
          if (i != j && a.stands && b.stands && dr * dr + dc * dc < d * d) return i;
        }
      return NONE;
    }
    int told(int what) {
      int heads = 0, open = 0, stand = 0, cells = 0;
      for (Pipe p : pipes) { if (p.head) heads++; if (p.open) open++; if (p.stands) stand++; }
      for (int[] row : kinds) for (int k : row) if (k == 0) cells++;
      int[] all = {sizes.size(), pipes.size(), heads, open, heaps.size(), countFree(), stand, cells, kinds.length,
          kinds[0].length};
      return out(what, 0, 9) ? OUTSIDE : all[what];
    }
  }

  // ---- one run: both houses, and what was called, for the tale of a fault
  static final class Run {
    final SprinklerHouse house = new SprinklerHouse();
    final Model model = new Model();
    final List<String> tale = new ArrayList<>();
    boolean failed = false;

    /** What a house answers after 512 calls is free. */
    boolean isUsedUp() { return tale.size() == 512; }

    void same(String call, long got, long want) {
      compared++;
      tale.add(call + " = " + want);
      if (got == want || failed) return;
      failed = true;
      wrong++;
      if (wrong <= 3) {
        System.out.println(String.join("\n", tale));
        System.out.println("the last call answered " + got);
      }
    }

    void call(int what, int a, int b, int c, int d, boolean is) {
      if (isUsedUp()) return;
      String two = "(" + a + ", " + b + ")", three = "(" + a + ", " + b + ", " + c + ")";
      switch (what) {
        case 0 -> same("supply" + two, house.supply(a, b), model.supply(a, b));
        case 1 -> same("size" + two, house.size(a, b), model.size(a, b));
        case 2 -> same("pipe" + three, house.pipe(a, b, c), model.pipe(a, b, c));
        case 3 -> same("head" + three, house.head(a, b, c), model.head(a, b, c));
        case 4 -> same("open(" + a + ", " + is + ")", house.open(a, is), model.open(a, is));
        case 5 -> same("shut(" + a + ", " + is + ")", house.shut(a, is), model.shut(a, is));
        case 6 -> same("clog" + two, house.clog(a, b), model.clog(a, b));
        case 7 -> same("resize" + two, house.resize(a, b), model.resize(a, b));
        case 8 -> same("conduct" + two, house.conduct(a, b), model.conduct(a, b));
        case 9 -> same("pressure" + two, house.pressure(a, b), model.pressure(a, b));
        case 10 -> same("flow" + two, house.flow(a, b), model.flow(a, b));
        case 11 -> same("total(" + a + ")", house.total(a), model.total(a));
        case 12 -> same("about" + two, house.about(a, b), model.about(a, b));
        case 13 -> same("worst()", house.worst(), model.worst());
        case 14 -> same("heap()", house.heap(), model.heap());
        case 15 -> same("put(" + a + ", " + b + ", " + is + ")", house.put(a, b, is), model.put(a, b, is));
        case 16 -> same("least(" + a + ")", house.least(a), model.least(a));
        case 17 -> same("thinnest()", house.thinnest(), model.thinnest());
        case 18 -> same("free(" + a + ", " + is + ")", house.free(a, is), model.free(a, is));
        case 19 -> same("choose()", house.choose(), model.choose());
        case 20 -> same("bill()", house.bill(), model.bill());
        case 21 -> same("margin(" + a + ")", house.margin(a), model.margin(a));
        case 22 -> same("floor" + two, house.floor(a, b), model.floor(a, b));
        case 23 -> same("cell" + three, house.cell(a, b, c), model.cell(a, b, c));
        case 24 -> same("stand(" + a + ", " + b + ", " + c + ", " + d + ")", house.stand(a, b, c, d),
            model.stand(a, b, c, d));
        case 25 -> same("lift(" + a + ")", house.lift(a), model.lift(a));
        case 26 -> same("wets" + three, house.wets(a, b, c), model.wets(a, b, c));
        case 27 -> same("dry(" + a + ")", house.dry(a), model.dry(a));
        case 28 -> same("near(" + a + ")", house.near(a), model.near(a));
        default -> same("told(" + a + ")", house.told(a), model.told(a));
      }
    }

    /** A part of all that can be asked; the parts together leave no state unseen. */
    void ask(int part) {
      switch (part) {
        case 0 -> askWater();
        case 1 -> askAbout();
        case 2 -> askCounts();
        default -> askDry();
      }
    }

    private void askWater() {
      for (int side = 0; side < 2; side++) {
        call(11, side, 0, 0, 0, false);
        for (int i = -1; i < model.pipes.size(); i++)
          for (int what = 8; what <= 10; what++) call(what, i, side, 0, 0, false);
      }
    }

    private void askAbout() {
      for (int what = -1; what <= 11; what++)
        for (int i = -1; i < model.pipes.size(); i++) call(12, i, what, 0, 0, false);
    }

    private void askCounts() {
      for (int h = 0; h < model.heaps.size(); h++) { call(16, h, 0, 0, 0, false); call(21, h, 0, 0, 0, false); }
      for (int what = -1; what <= 10; what++) call(29, what, 0, 0, 0, false);
      for (int d = 0; d <= 31; d++) call(28, d, 0, 0, 0, false);
      for (int what : new int[] {13, 17, 20}) call(what, 0, 0, 0, 0, false);
    }

    private void askDry() {
      int dry = model.dry(-1);
      for (int i = -2; i <= dry; i++) call(27, i, 0, 0, 0, false);
    }
  }

  /** Mostly within, at times at or just beyond an edge, now and then anywhere. */
  private static int number(Random random, int least, int most) {
    int way = random.nextInt(60);
    if (way == 0) return random.nextInt();
    if (way == 1) return random.nextBoolean() ? Integer.MIN_VALUE : Integer.MAX_VALUE;
    if (way == 2) return least - 1;
    if (way == 3) return most + 1;
    if (way <= 6) return random.nextBoolean() ? least : most;
    return least + random.nextInt(Math.max(1, most - least + 1));
  }

  private static final int[] OFTEN = {0, 1, 1, 2, 2, 2, 2, 3, 3, 3, 3, 4, 4, 4, 5, 6, 7, 8, 9, 10, 10, 11, 12, 13, 14,
      15, 15, 15, 15, 16, 17, 18, 18, 20, 21, 23, 23, 23, 24, 24, 24, 25, 26, 26, 27, 28, 29};

  private static void anyCall(Run run, Random random) {
    int pipes = run.model.pipes.size(), rows = run.model.kinds.length, columns = run.model.kinds[0].length;
    int what = random.nextInt(200) == 0 ? 22 : random.nextInt(200) == 0 ? 19 : OFTEN[random.nextInt(OFTEN.length)];
    int pipe = number(random, 0, pipes - 1), orSupply = number(random, -1, pipes - 1);
    int heap = number(random, 0, run.model.heaps.size() - 1), side = number(random, 0, 1);
    int size = number(random, 0, run.model.sizes.size() - 1);
    int row = number(random, 0, rows - 1), column = number(random, 0, columns - 1);
    boolean is = random.nextInt(3) > 0;
    switch (what) {
      case 0 -> run.call(0, number(random, 1, random.nextBoolean() ? 100 : 100000), number(random, 0, 4000), 0, 0, is);
      case 1 -> run.call(1, number(random, 1, 400), number(random, 1, random.nextBoolean() ? 9 : 1000), 0, 0, is);
      case 2 -> run.call(2, orSupply, number(random, 1, 10), size, 0, is);
      case 3 -> run.call(3, pipe, number(random, 1, 200), number(random, 0, random.nextBoolean() ? 900 : 30000), 0, is);
      case 4, 18, 25 -> run.call(what, pipe, 0, 0, 0, is);
      case 5 -> run.call(5, pipe, 0, 0, 0, random.nextInt(4) == 0);
      case 6 -> run.call(6, pipe, number(random, 0, 100), 0, 0, is);
      case 7 -> run.call(7, pipe, size, 0, 0, is);
      case 8, 9 -> run.call(what, orSupply, side, 0, 0, is);
      case 10 -> run.call(10, pipe, side, 0, 0, is);
      case 11 -> run.call(11, side, 0, 0, 0, is);
      case 12 -> run.call(12, pipe, number(random, 0, 10), 0, 0, is);
      case 15 -> run.call(15, heap, pipe, 0, 0, is);
      case 16, 21 -> run.call(what, heap, 0, 0, 0, is);
      case 22 -> run.call(22, number(random, 2, 16), number(random, 2, 16), 0, 0, is);
      case 23 -> run.call(23, row, column, number(random, 0, 2), 0, is);
      case 24 -> run.call(24, pipe, row, column, number(random, 1, 12), is);
      case 26 -> run.call(26, pipe, row, column, 0, is);
      case 27 -> run.call(27, number(random, -1, rows * columns), 0, 0, 0, is);
      case 28 -> run.call(28, number(random, 1, 30), 0, 0, 0, is);
      case 29 -> run.call(29, number(random, 0, 9), 0, 0, 0, is);
      default -> run.call(what, 0, 0, 0, 0, is);
    }
  }

  private static void mixedRun(long seed) {
    Random random = new Random(seed);
    Run run = new Run();
    if (random.nextBoolean()) run.call(22, 2 + random.nextInt(15), 2 + random.nextInt(15), 0, 0, false);
    int calls = 50 + random.nextInt(200);
    for (int i = 0; i < calls; i++) anyCall(run, random);
    run.ask((int) (seed % 4));
  }

  /** Houses whose HEADS need almost what some choice of SIZES gives them, so that few choices meet all HEAPS. */
  private static void tightRun(long seed, int most) {
    Random random = new Random(seed);
    Run run = new Run();
    run.call(0, 1 + random.nextInt(random.nextBoolean() ? 2000 : 100000), random.nextInt(4001), 0, 0, false);
    int sizes = 1 + random.nextInt(most);
    for (int i = 0; i < sizes; i++)
      run.call(1, 1 + random.nextInt(400), 1 + random.nextInt(random.nextBoolean() ? 5 : 1000), 0, 0, false);
    int pipes = 1 + random.nextInt(24);
    for (int i = 0; i < pipes; i++)
      run.call(2, i == 0 ? -1 : random.nextInt(i + 1) - 1, 1 + random.nextInt(10), random.nextInt(sizes), 0, false);
    pipes = run.model.pipes.size();
    for (int i = 0; i < pipes; i++)
      if (random.nextInt(4) > 0) run.call(3, i, 1 + random.nextInt(200), 0, 0, false);
    int heaps = random.nextInt(7);
    for (int h = 0; h < heaps; h++) {
      run.call(14, 0, 0, 0, 0, false);
      for (int i = 0; i < pipes; i++) if (random.nextInt(3) > 0) run.call(15, h, i, 0, 0, true);
    }
    for (int i = 0; i < 8; i++) run.call(18, random.nextInt(pipes), 0, 0, 0, true);
    if (random.nextInt(4) == 0) run.call(5, random.nextInt(pipes), 0, 0, 0, true);
    setNeeds(run, random);
    for (TreeSet<Integer> heap : run.model.heaps) {
      for (int i = 0; i < pipes; i++) run.call(4, i, 0, 0, 0, heap.contains(i));
      run.call(13, 0, 0, 0, 0, false);
    }
    for (int i = 0; i < pipes; i++) if (random.nextBoolean()) run.call(7, i, random.nextInt(sizes), 0, 0, false);
    for (int i = 0; i < 3; i++) {
      run.call(19, 0, 0, 0, 0, false);
      for (int j = 0; j < pipes; j++) run.call(12, j, 2, 0, 0, false);
      for (int h = 0; h < heaps; h++) { run.call(16, h, 0, 0, 0, false); run.call(21, h, 0, 0, 0, false); }
      run.call(17, 0, 0, 0, 0, false);
      run.call(20, 0, 0, 0, 0, false);
      run.call(18, random.nextInt(pipes), 0, 0, 0, false);
      run.call(6, random.nextInt(pipes), random.nextInt(10), 0, 0, false);
    }
  }

  private static void setNeeds(Run run, Random random) {
    Model m = run.model;
    int slack = random.nextInt(3) == 0 ? 1 : 1 + random.nextInt(200);
    for (int i = 0; i < m.pipes.size(); i++) {
      if (!m.pipes.get(i).head) continue;
      long gets = 30000L * 1024;
      for (TreeSet<Integer> heap : m.heaps) {
        m.forget();
        if (heap.contains(i)) gets = Math.min(gets, m.q(i, 0, heap, m.pressure));
      }
      int need = (int) Math.max(0, gets / 1024 - random.nextInt(slack));
      run.call(3, i, m.pipes.get(i).factor, need, 0, false);
    }
  }

  /** Floors crowded with walls and HEADS. */
  private static void floorRun(long seed) {
    Random random = new Random(seed);
    Run run = new Run();
    run.call(1, 1, 1, 0, 0, false);
    int pipes = 1 + random.nextInt(24);
    for (int i = 0; i < pipes; i++) { run.call(2, -1, 1, 0, 0, false); run.call(3, i, 1, 0, 0, false); }
    int rows = 2 + random.nextInt(15), columns = 2 + random.nextInt(15), walls = 1 + random.nextInt(10);
    run.call(22, rows, columns, 0, 0, false);
    for (int r = 0; r < rows; r++)
      for (int c = 0; c < columns; c++)
        if (random.nextInt(20) < walls) run.call(23, r, c, 1 + random.nextInt(4) / 3, 0, false);
    for (int i = 0; i < pipes; i++)
      run.call(24, i, random.nextInt(rows), random.nextInt(columns), 1 + random.nextInt(12), false);
    if (seed % 2 == 0) run.ask(3);
    run.ask(2);
    while (!run.isUsedUp())
      run.call(26, random.nextInt(pipes), random.nextInt(rows), random.nextInt(columns), 0, false);
  }

  public static void main(String[] args) {
    int times = args.length == 0 ? 1 : Integer.parseInt(args[0]);
    for (long seed = 0; seed < 6000L * times; seed++) mixedRun(seed);
    for (long seed = 0; seed < 600L * times; seed++) tightRun(seed, seed % 10 == 0 ? 6 : 4);
    for (long seed = 0; seed < 3000L * times; seed++) floorRun(seed);
    System.out.println(compared + " answers compared, " + wrong + " runs are not as due");
    if (wrong != 0) System.exit(1);
  }
}
