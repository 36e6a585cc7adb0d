/** Each promise of the document by itself: ordinary calls, the edges it names, and calls it refuses. */
public final class PromiseTest {
  private static final int UNKNOWN = -1, OUTSIDE = -2, STATE = -3, FULL = -4, NO = -5, NONE = -6;
  private static final int LEAST = Integer.MIN_VALUE, MOST = Integer.MAX_VALUE;
  private static int wrong = 0, asked = 0;

  private static void due(int promise, String call, long got, long want) {
    asked++;
    if (got == want) return;
    wrong++;
    System.out.println("promise " + promise + ": " + call + " answered " + got + ", due is " + want);
  }

  /** HEADS with FACTOR 10 and NEED 0 on so many PIPES that all begin at the SUPPLY. */
  private static SprinklerHouse withHeads(int count) {
    SprinklerHouse x = new SprinklerHouse();
    x.size(1, 1);
    for (int i = 0; i < count; i++) { x.pipe(-1, 1, 0); x.head(i, 10, 0); }
    return x;
  }

  /** Five PIPES, HEADS on 1 to 4, of which 1, 2 and 4 are OPEN; the numbers due were reckoned apart, in Python. */
  private static SprinklerHouse withTree() {
    SprinklerHouse x = new SprinklerHouse();
    x.supply(5000, 700);
    x.size(400, 3);
    x.size(25, 40);
    x.pipe(-1, 10, 0); x.pipe(0, 7, 0); x.pipe(0, 3, 1); x.pipe(-1, 2, 1); x.pipe(2, 9, 0);
    x.head(1, 200, 9050); x.head(2, 150, 7000); x.head(3, 60, 30000); x.head(4, 199, 8800);
    x.open(1, true); x.open(2, true); x.open(4, true);
    return x;
  }

  private static void newObject() {
    SprinklerHouse x = new SprinklerHouse();
    for (int what = 0; what <= 6; what++) due(1, "told(" + what + ")", x.told(what), 0);
    due(1, "told(7)", x.told(7), 4);
    due(1, "told(8)", x.told(8), 2);
    due(1, "told(9)", x.told(9), 2);
    due(1, "pressure(-1, 0)", x.pressure(-1, 0), 1000 * 1024);
    due(1, "pressure(-1, 1)", x.pressure(-1, 1), 1000 * 1024);
    x.size(400, 1); x.pipe(-1, 10, 0); x.head(0, 200, 0); x.open(0, true);
    due(1, "pressure(-1, 0) with a flow: DRAG 0", x.pressure(-1, 0), 1000 * 1024);
    due(1, "least(0): no HEAP", x.least(0), SprinklerHouse.LOST - 1);
    due(1, "cell(1, 1, 0)", x.cell(1, 1, 0), 0);
    due(1, "cell(2, 1, 0)", x.cell(2, 1, 0), UNKNOWN);
    due(1, "cell(1, 2, 0)", x.cell(1, 2, 0), UNKNOWN);
  }

  private static void supply() {
    SprinklerHouse x = new SprinklerHouse();
    due(2, "supply(1, 0)", x.supply(1, 0), 1);
    due(2, "pressure", x.pressure(-1, 0), 1024);
    due(2, "supply(100000, 4000)", x.supply(100000, 4000), 1);
    due(2, "pressure", x.pressure(-1, 1), 102400000);
    int[][] refused = {{0, 0}, {100001, 0}, {1, -1}, {1, 4001}, {LEAST, 0}, {MOST, 0}, {5, LEAST}, {5, MOST}};
    for (int[] r : refused) due(2, "supply(" + r[0] + ", " + r[1] + ")", x.supply(r[0], r[1]), OUTSIDE);
    due(2, "pressure: nothing has changed", x.pressure(-1, 0), 102400000);
    due(2, "conduct of the tree by the SUPPLY's DRAG", withTree().conduct(-1, 0), 362218);
  }

  private static void size() {
    SprinklerHouse x = new SprinklerHouse();
    int[][] refused = {{0, 1}, {401, 1}, {1, 0}, {1, 1001}, {LEAST, 5}, {5, MOST}};
    for (int[] r : refused) due(3, "size(" + r[0] + ", " + r[1] + ")", x.size(r[0], r[1]), OUTSIDE);
    due(3, "size(1, 1000)", x.size(1, 1000), 0);
    due(3, "size(400, 1)", x.size(400, 1), 1);
    for (int i = 2; i < 6; i++) due(3, "size(7, 7)", x.size(7, 7), i);
    due(3, "size(7, 7), the seventh", x.size(7, 7), FULL);
    due(3, "size(0, 7): OUTSIDE before FULL", x.size(0, 7), OUTSIDE);
    due(3, "told(0)", x.told(0), 6);
  }

  private static void pipe() {
    SprinklerHouse x = new SprinklerHouse();
    due(4, "pipe(-1, 1, 0): no SIZE", x.pipe(-1, 1, 0), UNKNOWN);
    x.size(5, 5); x.size(6, 6);
    int[][] unknown = {{-2, 1, 0}, {0, 1, 0}, {-1, 1, 2}, {-1, 1, -1}, {-1, 0, 2}, {LEAST, 1, 0}, {MOST, 1, 0},
        {-1, 1, MOST}};
    for (int[] u : unknown) due(4, "pipe(" + u[0] + ", " + u[1] + ", " + u[2] + ")", x.pipe(u[0], u[1], u[2]), UNKNOWN);
    due(4, "pipe(-1, 0, 0)", x.pipe(-1, 0, 0), OUTSIDE);
    due(4, "pipe(-1, 11, 0)", x.pipe(-1, 11, 0), OUTSIDE);
    due(4, "pipe(-1, 1, 1)", x.pipe(-1, 1, 1), 0);
    due(4, "pipe(1, 1, 1): not of itself", x.pipe(1, 1, 1), UNKNOWN);
    for (int i = 1; i < 8; i++) due(4, "pipe, one behind another", x.pipe(i - 1, 10, 0), i);
    due(4, "pipe(7, 1, 0): the ninth step", x.pipe(7, 1, 0), NO);
    due(4, "pipe(7, 11, 0): OUTSIDE before NO", x.pipe(7, 11, 0), OUTSIDE);
    due(4, "pipe(6, 1, 0): the eighth again", x.pipe(6, 1, 0), 8);
    due(4, "pipe(8, 1, 0)", x.pipe(8, 1, 0), NO);
    for (int i = 9; i < 24; i++) due(4, "pipe(-1, 3, 0)", x.pipe(-1, 3, 0), i);
    due(4, "pipe, the 25th", x.pipe(-1, 3, 0), FULL);
    due(4, "pipe(7, 3, 0): FULL before NO", x.pipe(7, 3, 0), FULL);
    due(4, "pipe(-1, 0, 0): OUTSIDE before FULL", x.pipe(-1, 0, 0), OUTSIDE);
    due(4, "pipe(24, 3, 0): UNKNOWN before FULL", x.pipe(24, 3, 0), UNKNOWN);
    due(4, "told(1)", x.told(1), 24);
  }

  private static void head() {
    SprinklerHouse x = new SprinklerHouse();
    due(5, "head(0, 1, 0)", x.head(0, 1, 0), UNKNOWN);
    x.size(1, 1); x.pipe(-1, 1, 0); x.pipe(-1, 1, 0);
    due(5, "head(2, 0, 0)", x.head(2, 0, 0), UNKNOWN);
    due(5, "head(-1, 1, 0)", x.head(-1, 1, 0), UNKNOWN);
    int[][] refused = {{0, 0}, {201, 0}, {1, -1}, {1, 30001}, {LEAST, 0}, {1, MOST}};
    for (int[] r : refused) due(5, "head(0, " + r[0] + ", " + r[1] + ")", x.head(0, r[0], r[1]), OUTSIDE);
    due(5, "told(2)", x.told(2), 0);
    due(5, "head(0, 1, 30000)", x.head(0, 1, 30000), 1);
    due(5, "head(1, 200, 0)", x.head(1, 200, 0), 1);
    due(5, "told(2)", x.told(2), 2);
    due(5, "told(3): not OPEN", x.told(3), 0);
    x.open(0, true); x.clog(0, 40); x.heap(); x.put(0, 0, true); x.stand(0, 1, 0, 3);
    due(5, "head(0, 7, 8), anew", x.head(0, 7, 8), 1);
    int[] want = {1, 7, 8, 0, 0};
    for (int i = 0; i < 5; i++) due(5, "about(0, " + (4 + i) + ")", x.about(0, 4 + i), want[i]);
    due(5, "put(0, 1, false): it keeps its HEAP", x.put(0, 1, false), 1);
    due(5, "told(6): it keeps where it STANDS", x.told(6), 1);
    due(5, "stand(1, 1, 0, 1): there", x.stand(1, 1, 0, 1), NO);
    x.open(0, true); x.clog(0, 40);
    due(5, "head(0, 0, 8)", x.head(0, 0, 8), OUTSIDE);
    due(5, "about(0, 7): a refused call changes nothing", x.about(0, 7), 1);
    due(5, "about(0, 8)", x.about(0, 8), 40);
  }

  private static void openAndShut() {
    SprinklerHouse x = withHeads(1);
    x.pipe(0, 1, 0);
    due(6, "open(0, true)", x.open(0, true), 0);
    due(6, "open(0, true)", x.open(0, true), 1);
    due(6, "about(0, 7)", x.about(0, 7), 1);
    due(6, "open(0, false)", x.open(0, false), 1);
    due(6, "open(0, false)", x.open(0, false), 0);
    due(6, "flow(0, 1)", x.flow(0, 1), 0);
    for (int i : new int[] {-1, 1, 2, LEAST, MOST}) due(6, "open(" + i + ", true)", x.open(i, true), UNKNOWN);
    due(7, "shut(1, true)", x.shut(1, true), 0);
    due(7, "shut(1, true)", x.shut(1, true), 1);
    due(7, "about(1, 3)", x.about(1, 3), 1);
    due(7, "about(0, 3)", x.about(0, 3), 0);
    due(7, "shut(1, false)", x.shut(1, false), 1);
    due(7, "shut(1, true)", x.shut(1, true), 0);
    for (int i : new int[] {-1, 2, 24, LEAST, MOST}) due(7, "shut(" + i + ", true)", x.shut(i, true), UNKNOWN);
  }

  private static void clog() {
    SprinklerHouse x = withHeads(1);
    x.pipe(-1, 1, 0);
    x.head(0, 57, 0);
    due(8, "clog(0, 50)", x.clog(0, 50), 0);
    due(8, "about(0, 5): cut down", x.about(0, 5), 28);
    due(8, "clog(0, 1)", x.clog(0, 1), 50);
    due(8, "about(0, 5)", x.about(0, 5), 56);
    due(8, "clog(0, 99)", x.clog(0, 99), 1);
    due(8, "about(0, 5)", x.about(0, 5), 0);
    due(8, "clog(0, 101)", x.clog(0, 101), OUTSIDE);
    due(8, "clog(0, -1)", x.clog(0, -1), OUTSIDE);
    due(8, "clog(1, 101): no HEAD", x.clog(1, 101), UNKNOWN);
    due(8, "clog(-1, 1)", x.clog(-1, 1), UNKNOWN);
    due(8, "clog(0, 100)", x.clog(0, 100), 99);
    due(8, "clog(0, 0)", x.clog(0, 0), 100);
    due(8, "about(0, 5)", x.about(0, 5), 57);
  }

  private static void resize() {
    SprinklerHouse x = withTree();
    due(9, "resize(0, 1)", x.resize(0, 1), 0);
    due(9, "resize(0, 0)", x.resize(0, 0), 1);
    due(9, "conduct(0, 0)", x.conduct(0, 0), 377962);
    due(9, "resize(3, 0)", x.resize(3, 0), 1);
    due(9, "about(3, 2)", x.about(3, 2), 0);
    int[][] unknown = {{-1, 0}, {5, 0}, {0, 2}, {0, -1}, {MOST, 0}, {0, LEAST}};
    for (int[] u : unknown) due(9, "resize(" + u[0] + ", " + u[1] + ")", x.resize(u[0], u[1]), UNKNOWN);
    due(9, "bill: 10, 7, 2, 9 metres at 3, 3 metres at 40", x.bill(), 204);
  }

  private static void held() {
    SprinklerHouse x = withTree();
    long[][] g = {{362218, 362221}, {377962, 377964}, {194887, 194888}, {343700, 343702}, {0, 0}, {191461, 191462}};
    long[][] p = {{4702348, 4702353}, {2315779, 2315795}, {2097040, 2097056}, {2297555, 2297572}, {4702348, 4702353},
        {2028257, 2028273}};
    long[][] q = {{-1, -1}, {9267800, 9268000}, {7275600, 7275750}, {0, 0}, {9069027, 9069226}};
    for (int side = 0; side < 2; side++) {
      for (int i = -1; i < 5; i++) due(10, "conduct(" + i + ", " + side + ")", x.conduct(i, side), g[i + 1][side]);
      for (int i = -1; i < 5; i++) due(11, "pressure(" + i + ", " + side + ")", x.pressure(i, side), p[i + 1][side]);
      for (int i = 0; i < 5; i++) due(12, "flow(" + i + ", " + side + ")", x.flow(i, side), q[i][side]);
    }
    due(13, "total(0)", x.total(0), 25612427);
    due(13, "total(1)", x.total(1), 25612976);
    x.shut(2, true);
    due(10, "conduct(2, 1), SHUT", x.conduct(2, 1), 0);
    due(10, "conduct(4, 1), behind a SHUT one", x.conduct(4, 1), 191462);
    due(10, "conduct(-1, 0)", x.conduct(-1, 0), 181061);
    due(11, "pressure(2, 1), SHUT", x.pressure(2, 1), 0);
    due(11, "pressure(4, 1), behind a SHUT one", x.pressure(4, 1), 0);
    due(11, "pressure(1, 0)", x.pressure(1, 0), 4001883);
    due(12, "flow(1, 1)", x.flow(1, 1), 12803200);
    due(12, "flow(4, 1)", x.flow(4, 1), 0);
    due(13, "total(0)", x.total(0), 12803000);
    heldRefused(x);
    heldGreatest();
    SprinklerHouse y = new SprinklerHouse();
    y.supply(1, 0); y.size(1, 1); y.pipe(-1, 1, 0); y.head(0, 1, 0); y.open(0, true);
    long[] least = {y.conduct(0, 0), y.conduct(0, 1), y.pressure(0, 0), y.pressure(0, 1), y.flow(0, 0), y.flow(0, 1)};
    for (int i = 0; i < 6; i++) due(10 + i / 2, "the least numbers, side " + i % 2, least[i], 1023 + i % 2);
  }

  private static void heldRefused(SprinklerHouse x) {
    for (int i : new int[] {-2, 5, 24, LEAST, MOST}) {
      due(10, "conduct(" + i + ", 2)", x.conduct(i, 2), UNKNOWN);
      due(11, "pressure(" + i + ", 2)", x.pressure(i, 2), UNKNOWN);
      due(12, "flow(" + i + ", 2)", x.flow(i, 2), UNKNOWN);
    }
    due(12, "flow(-1, 0)", x.flow(-1, 0), UNKNOWN);
    due(12, "flow(0, 0): no HEAD", x.flow(0, 0), UNKNOWN);
    for (int side : new int[] {-1, 2, LEAST, MOST}) {
      due(10, "conduct(-1, " + side + ")", x.conduct(-1, side), OUTSIDE);
      due(11, "pressure(-1, " + side + ")", x.pressure(-1, side), OUTSIDE);
      due(12, "flow(3, " + side + ")", x.flow(3, side), OUTSIDE);
      due(13, "total(" + side + ")", x.total(side), OUTSIDE);
    }
  }

  private static void heldGreatest() {
    SprinklerHouse x = new SprinklerHouse();
    x.supply(100000, 4000); x.size(400, 1000);
    for (int i = 0; i < 24; i++) { x.pipe(i == 0 ? -1 : 0, 10, 0); x.head(i, 200, 0); x.open(i, true); }
    due(10, "conduct(-1, 0)", x.conduct(-1, 0), 373908);
    due(10, "conduct(0, 1)", x.conduct(0, 1), 527048);
    due(11, "pressure(-1, 0)", x.pressure(-1, 0), 51538313);
    due(11, "pressure(-1, 1)", x.pressure(-1, 1), 51538412);
    due(11, "pressure(23, 1)", x.pressure(23, 1), 589047);
    due(12, "flow(23, 0)", x.flow(23, 0), 4911800);
    due(13, "total(0)", x.total(0), 118236400);
    due(13, "total(1)", x.total(1), 118241400);
    due(22, "bill()", x.bill(), 240000);
  }

  private static void about() {
    SprinklerHouse x = withTree();
    x.clog(4, 10); x.free(4, true); x.shut(4, true);
    int[] fourth = {2, 9, 0, 1, 1, 179, 8800, 1, 10, 1, 0};
    int[] first = {-1, 10, 0, 0, 0, 0, 0, 0, 0, 0, 2};
    for (int what = 0; what <= 10; what++) {
      due(14, "about(4, " + what + ")", x.about(4, what), fourth[what]);
      due(14, "about(0, " + what + ")", x.about(0, what), first[what]);
    }
    for (int i : new int[] {-1, 5, LEAST, MOST}) due(14, "about(" + i + ", 99)", x.about(i, 99), UNKNOWN);
    for (int what : new int[] {-1, 11, LEAST, MOST}) due(14, "about(0, " + what + ")", x.about(0, what), OUTSIDE);
  }

  private static void worst() {
    SprinklerHouse x = withHeads(4);
    due(15, "worst(): none is OPEN", x.worst(), NONE);
    x.open(1, true); x.open(2, true);
    due(15, "worst(): the first of equals", x.worst(), 1);
    x.head(3, 10, 1); x.open(3, true);
    due(15, "worst()", x.worst(), 3);
    x.clog(2, 100);
    due(15, "worst(): without a FACTOR", x.worst(), 2);
    x.head(0, 1, 30000);
    due(15, "worst(): 0 is not OPEN", x.worst(), 2);
    due(15, "worst() of the tree: by spare water", withTree().worst(), 1);
  }

  private static void heaps() {
    SprinklerHouse x = withTree();
    due(19, "thinnest()", x.thinnest(), NONE);
    due(17, "put(0, 1, true): no HEAP", x.put(0, 1, true), UNKNOWN);
    for (int i = 0; i < 6; i++) due(16, "heap()", x.heap(), i);
    due(16, "heap(), the seventh", x.heap(), FULL);
    due(16, "told(4)", x.told(4), 6);
    due(17, "put(0, 1, true)", x.put(0, 1, true), 1);
    due(17, "put(0, 1, true)", x.put(0, 1, true), 1);
    due(17, "put(0, 2, true)", x.put(0, 2, true), 2);
    due(17, "put(0, 4, false): not in it", x.put(0, 4, false), 2);
    due(17, "put(0, 4, true)", x.put(0, 4, true), 3);
    int[][] unknown = {{6, 1}, {-1, 1}, {0, 0}, {0, 5}, {0, -1}, {MOST, LEAST}};
    for (int[] u : unknown) due(17, "put(" + u[0] + ", " + u[1] + ", true)", x.put(u[0], u[1], true), UNKNOWN);
    x.open(3, true); x.open(4, false);
    due(18, "least(0): its HEADS alone are OPEN", x.least(0), 9267800 - 9050 * 1024);
    due(18, "least(5): empty", x.least(5), 0);
    due(6, "about(4, 7): only for the while", x.about(4, 7), 0);
    due(6, "about(3, 7)", x.about(3, 7), 1);
    for (int h : new int[] {6, -1, LEAST, MOST}) due(18, "least(" + h + ")", x.least(h), -1000000000001L);
    due(19, "thinnest(): an empty one, for LEAST of 0 is above 0", x.thinnest(), 1);
    x.put(3, 3, true); x.put(4, 3, true);
    due(19, "thinnest(): the first of two", x.thinnest(), 3);
    due(17, "put(3, 3, false)", x.put(3, 3, false), 0);
    due(19, "thinnest()", x.thinnest(), 4);
  }

  private static void free() {
    SprinklerHouse x = withHeads(7);
    due(20, "free(0, false)", x.free(0, false), 0);
    for (int i = 0; i < 5; i++) due(20, "free(" + i + ", true)", x.free(i, true), i + 1);
    due(20, "free(5, true), the sixth", x.free(5, true), FULL);
    due(20, "about(5, 9)", x.about(5, 9), 0);
    due(20, "free(4, true): it is", x.free(4, true), 5);
    due(20, "free(6, false): it is not", x.free(6, false), 5);
    due(20, "free(7, true): UNKNOWN before FULL", x.free(7, true), UNKNOWN);
    due(20, "free(-1, true)", x.free(-1, true), UNKNOWN);
    due(20, "free(2, false)", x.free(2, false), 4);
    due(20, "free(5, true)", x.free(5, true), 5);
    due(20, "told(5)", x.told(5), 5);
  }

  /** Three PIPES behind one another, and a fourth that is not FREE. */
  private static SprinklerHouse toChoose(int need) {
    SprinklerHouse x = new SprinklerHouse();
    x.supply(3000, 100);
    x.size(400, 1); x.size(100, 10); x.size(1, 100); x.size(1, 100);
    x.pipe(-1, 10, 3); x.pipe(0, 10, 0); x.pipe(1, 10, 3); x.pipe(1, 4, 0);
    x.head(2, 150, need); x.head(3, 100, 0); x.head(0, 90, 0);
    x.heap(); x.heap();
    x.put(0, 2, true); x.put(1, 2, true); x.put(1, 3, true);
    x.free(0, true); x.free(1, true); x.free(2, true);
    return x;
  }

  private static void choose() {
    int[][] rows = {{7450, 214, 1, 1, 0}, {7650, 304, 1, 1, 1}, {7700, 1204, 1, 1, 2}, {7800, 1204, 1, 2, 1},
        {7950, 2104, 1, 2, 2}, {8000, 2104, 2, 2, 1}, {8150, 3004, 2, 2, 2}, {9000, NO, 3, 0, 3}};
    for (int[] row : rows) {
      SprinklerHouse x = toChoose(row[0]);
      long had = x.bill();
      due(21, "choose() with NEED " + row[0], x.choose(), row[1]);
      for (int i = 0; i < 3; i++) due(21, "about(" + i + ", 2), NEED " + row[0], x.about(i, 2), row[2 + i]);
      due(21, "about(3, 2): not FREE", x.about(3, 2), 0);
      due(22, "bill()", x.bill(), row[1] == NO ? had : row[1]);
      due(21, "choose() again", x.choose(), row[1]);
      due(21, "told(3): no HEAD stays OPEN", x.told(3), 0);
    }
    chooseNarrow();
    SprinklerHouse x = withHeads(1);
    due(21, "choose(): nothing is FREE, no HEAP", x.choose(), 1);
    x.heap(); x.put(0, 0, true); x.head(0, 10, 30000);
    due(21, "choose(): nothing is FREE, a HEAP is not MET", x.choose(), NO);
    due(21, "choose() without PIPES", new SprinklerHouse().choose(), 0);
  }

  /** The dear narrow SIZE for one PIPE leaves the other one more. */
  private static void chooseNarrow() {
    int[][] rows = {{5000, 20, 1, 1}, {5050, 60, 1, 0}, {5100, NO, 0, 0}};
    for (int[] row : rows) {
      SprinklerHouse x = new SprinklerHouse();
      x.supply(1000, 4000);
      x.size(400, 5); x.size(1, 1);
      x.pipe(-1, 10, 0); x.pipe(-1, 10, 0);
      x.head(0, 200, row[0]); x.head(1, 200, 0);
      x.heap(); x.put(0, 0, true); x.put(0, 1, true);
      x.free(0, true); x.free(1, true);
      due(21, "choose() with NEED " + row[0], x.choose(), row[1]);
      due(21, "about(0, 2)", x.about(0, 2), row[2]);
      due(21, "about(1, 2)", x.about(1, 2), row[3]);
    }
  }

  private static void bill() {
    SprinklerHouse x = withTree();
    due(22, "bill()", x.bill(), 10 * 3 + 7 * 3 + 3 * 40 + 2 * 40 + 9 * 3);
    x.shut(0, true);
    due(22, "bill(): SHUT or not", x.bill(), 278);
    due(22, "bill() without PIPES", new SprinklerHouse().bill(), 0);
  }

  private static void margin() {
    int[][] rows = {{1580, 1000, 76}, {3162, 1000, 1}, {3130, 1000, 3}, {100, 1000, 100}, {99, 1000, NONE},
        {0, 1000, NONE}, {99, 1, NONE}, {100, 1, NO}, {101, 150, 99}};
    for (int[] row : rows) {
      SprinklerHouse x = withHeads(1);
      x.supply(row[1], 0);
      x.head(0, 100, row[0]);
      x.heap(); x.heap();
      x.put(0, 0, true);
      due(23, "margin(0), NEED " + row[0] + ", PRESSURE " + row[1], x.margin(0), row[2]);
      due(23, "margin(1): empty", x.margin(1), NONE);
      for (int h : new int[] {2, -1, LEAST, MOST}) due(23, "margin(" + h + ")", x.margin(h), UNKNOWN);
      due(23, "pressure(-1, 0): as before", x.pressure(-1, 0), row[1] * 1024);
    }
  }

  private static void floor() {
    SprinklerHouse x = withHeads(1);
    x.cell(0, 0, 1); x.stand(0, 1, 1, 1);
    int[][] refused = {{1, 2}, {2, 1}, {17, 2}, {2, 17}, {LEAST, 5}, {5, MOST}};
    for (int[] r : refused) due(24, "floor(" + r[0] + ", " + r[1] + ")", x.floor(r[0], r[1]), OUTSIDE);
    due(24, "told(6): nothing has changed", x.told(6), 1);
    due(24, "told(7)", x.told(7), 3);
    due(24, "floor(2, 16)", x.floor(2, 16), 32);
    due(24, "told(6): none STANDS", x.told(6), 0);
    due(24, "told(7): all open", x.told(7), 32);
    due(24, "told(8)", x.told(8), 2);
    due(24, "told(9)", x.told(9), 16);
    due(24, "lift(0)", x.lift(0), 0);
    due(24, "floor(16, 2)", x.floor(16, 2), 32);
    due(24, "floor(16, 16)", x.floor(16, 16), 256);
  }

  private static void cell() {
    SprinklerHouse x = withHeads(1);
    x.floor(3, 4);
    due(25, "cell(2, 3, 1)", x.cell(2, 3, 1), 0);
    due(25, "cell(2, 3, 2)", x.cell(2, 3, 2), 1);
    due(25, "cell(2, 3, 0)", x.cell(2, 3, 0), 2);
    int[][] unknown = {{-1, 0}, {3, 0}, {0, -1}, {0, 4}, {LEAST, 0}, {0, MOST}};
    for (int[] u : unknown) due(25, "cell(" + u[0] + ", " + u[1] + ", 3)", x.cell(u[0], u[1], 3), UNKNOWN);
    x.stand(0, 1, 1, 1);
    for (int kind : new int[] {-1, 3, LEAST, MOST}) due(25, "cell(1, 1, " + kind + ")", x.cell(1, 1, kind), OUTSIDE);
    for (int kind = 0; kind < 3; kind++) due(25, "cell(1, 1, " + kind + ")", x.cell(1, 1, kind), STATE);
    x.lift(0);
    due(25, "cell(1, 1, 2)", x.cell(1, 1, 2), 0);
    due(25, "told(7)", x.told(7), 11);
  }

  private static void standAndLift() {
    SprinklerHouse x = withHeads(2);
    x.pipe(-1, 1, 0);
    x.floor(3, 4);
    due(27, "lift(0): it STANDS nowhere", x.lift(0), 0);
    due(26, "stand(0, 0, 0, 1)", x.stand(0, 0, 0, 1), 1);
    due(26, "stand(0, 0, 0, 12): again there", x.stand(0, 0, 0, 12), 1);
    due(26, "wets(0, 2, 3): by the new REACH", x.wets(0, 2, 3), 1);
    due(26, "stand(1, 0, 0, 1)", x.stand(1, 0, 0, 1), NO);
    due(26, "stand(0, 2, 3, 1): elsewhere", x.stand(0, 2, 3, 1), 1);
    due(26, "stand(1, 0, 0, 1): where it stood", x.stand(1, 0, 0, 1), 1);
    x.cell(1, 1, 1); x.cell(1, 2, 2);
    due(26, "stand(0, 1, 1, 1): a wall", x.stand(0, 1, 1, 1), NO);
    due(26, "stand(0, 1, 2, 1): nothing", x.stand(0, 1, 2, 1), NO);
    int[][] unknown = {{2, 0, 1}, {-1, 0, 1}, {3, 0, 1}, {0, 3, 0}, {0, 0, 4}, {0, -1, 0}, {0, 0, -1}, {MOST, 0, 0}};
    for (int[] u : unknown)
      due(26, "stand(" + u[0] + ", " + u[1] + ", " + u[2] + ", 0)", x.stand(u[0], u[1], u[2], 0), UNKNOWN);
    for (int reach : new int[] {0, 13, LEAST, MOST})
      due(26, "stand(0, 1, 1, " + reach + "): OUTSIDE before NO", x.stand(0, 1, 1, reach), OUTSIDE);
    due(26, "wets(0, 2, 3): it STANDS where it did", x.wets(0, 2, 3), 1);
    due(26, "told(6)", x.told(6), 2);
    due(27, "lift(0)", x.lift(0), 1);
    due(27, "lift(0)", x.lift(0), 0);
    due(27, "told(6)", x.told(6), 1);
    for (int i : new int[] {-1, 2, 3, LEAST, MOST}) due(27, "lift(" + i + ")", x.lift(i), UNKNOWN);
  }

  private static void wets() {
    SprinklerHouse x = withHeads(1);
    x.pipe(-1, 1, 0);
    x.floor(16, 16);
    due(28, "wets(0, 0, 0): it STANDS nowhere", x.wets(0, 0, 0), STATE);
    due(28, "wets(0, 16, 0)", x.wets(0, 16, 0), UNKNOWN);
    due(28, "wets(0, 0, -1)", x.wets(0, 0, -1), UNKNOWN);
    due(28, "wets(1, 0, 0)", x.wets(1, 0, 0), UNKNOWN);
    x.stand(0, 8, 8, 5);
    int[][] rows = {{8, 8, 1}, {8, 13, 1}, {8, 14, 0}, {11, 12, 1}, {4, 5, 1}, {12, 12, 0}, {3, 8, 1}, {2, 8, 0}};
    for (int[] r : rows) due(28, "wets(0, " + r[0] + ", " + r[1] + ")", x.wets(0, r[0], r[1]), r[2]);
    x.cell(8, 9, 1); x.cell(7, 8, 1);
    due(28, "wets(0, 7, 9): between the corners of two walls", x.wets(0, 7, 9), 1);
    due(28, "wets(0, 6, 10)", x.wets(0, 6, 10), 1);
    due(28, "wets(0, 8, 9): a wall", x.wets(0, 8, 9), 0);
    due(28, "wets(0, 8, 10): behind it", x.wets(0, 8, 10), 0);
    due(28, "wets(0, 7, 10): through its inside", x.wets(0, 7, 10), 0);
    due(28, "wets(0, 9, 11)", x.wets(0, 9, 11), 0);
    due(28, "wets(0, 9, 9): by its corner", x.wets(0, 9, 9), 1);
    x.cell(10, 8, 1);
    due(28, "wets(0, 11, 9): by its corner", x.wets(0, 11, 9), 1);
    due(28, "wets(0, 12, 9): through its inside", x.wets(0, 12, 9), 0);
    due(28, "wets(0, 10, 10)", x.wets(0, 10, 10), 1);
    x.cell(8, 7, 2);
    due(28, "wets(0, 8, 7): nothing is not wetted", x.wets(0, 8, 7), 0);
    due(28, "wets(0, 8, 6): nothing hides nothing", x.wets(0, 8, 6), 1);
    x.open(0, false);
    due(28, "wets(0, 8, 6): OPEN or not", x.wets(0, 8, 6), 1);
  }

  private static void dry() {
    SprinklerHouse x = withHeads(2);
    x.floor(3, 16);
    due(29, "dry(-1)", x.dry(-1), 48);
    due(29, "dry(47)", x.dry(47), 47);
    x.stand(0, 1, 1, 1);
    due(29, "dry(-1)", x.dry(-1), 43);
    int[] first = {0, 2, 3};
    for (int i = 0; i < 3; i++) due(29, "dry(" + i + ")", x.dry(i), first[i]);
    due(29, "dry(14)", x.dry(14), 15);
    due(29, "dry(15)", x.dry(15), 16 + 3);
    due(29, "dry(42)", x.dry(42), 47);
    due(29, "dry(43)", x.dry(43), NONE);
    due(29, "dry(-2)", x.dry(-2), NONE);
    due(29, "dry(LEAST)", x.dry(LEAST), NONE);
    due(29, "dry(MOST)", x.dry(MOST), NONE);
    x.cell(0, 2, 2); x.cell(0, 0, 1);
    due(29, "dry(0): open cells alone", x.dry(0), 3);
    x.stand(1, 1, 3, 2);
    due(29, "dry(-1): 8 more are wet", x.dry(-1), 41 - 8);
    x.lift(0); x.lift(1);
    due(29, "dry(-1)", x.dry(-1), 46);
  }

  private static void near() {
    SprinklerHouse x = withHeads(4);
    x.floor(16, 16);
    for (int d : new int[] {0, -1, 31, LEAST, MOST}) due(30, "near(" + d + ")", x.near(d), OUTSIDE);
    due(30, "near(30)", x.near(30), NONE);
    x.stand(1, 0, 0, 1);
    due(30, "near(30): to itself", x.near(30), NONE);
    x.stand(3, 15, 15, 1);
    due(30, "near(21): 450 is not below 441", x.near(21), NONE);
    due(30, "near(22)", x.near(22), 1);
    x.stand(2, 15, 12, 1);
    due(30, "near(3): 9 is not below 9", x.near(3), NONE);
    due(30, "near(4)", x.near(4), 2);
    due(30, "near(30)", x.near(30), 1);
    x.lift(3);
    due(30, "near(4): it STANDS no more", x.near(4), NONE);
    x.stand(0, 15, 13, 1);
    due(30, "near(1)", x.near(1), NONE);
    due(30, "near(2)", x.near(2), 0);
  }

  private static void told() {
    SprinklerHouse x = withTree();
    x.heap(); x.heap(); x.free(0, true); x.floor(5, 6); x.stand(1, 4, 5, 2); x.cell(0, 0, 1); x.cell(0, 1, 2);
    int[] want = {2, 5, 4, 3, 2, 1, 1, 28, 5, 6};
    for (int what = 0; what < 10; what++) due(31, "told(" + what + ")", x.told(what), want[what]);
    for (int what : new int[] {-1, 10, LEAST, MOST}) due(31, "told(" + what + ")", x.told(what), OUTSIDE);
  }

  public static void main(String[] args) {
    newObject(); supply(); size(); pipe(); head(); openAndShut(); clog(); resize();
    held(); about(); worst();
    heaps(); free(); choose(); bill(); margin();
    floor(); cell(); standAndLift(); wets(); dry(); near(); told();
    System.out.println(asked + " answers asked for, " + wrong + " are not as due");
    if (wrong != 0) System.exit(1);
  }
}
