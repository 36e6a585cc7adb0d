/**
 * The boundary cases of part 2 of the document, HEAPS, and of promises 16 to 23, a test for each sentence. The numbers
 * that are due were reckoned apart, in Python, from the document's words.
 */
public final class HeapBoundaryTest {
  private static final Ledger LEDGER = new Ledger();
  private static final String ONE = "size(1, 1); pipe(-1, 1, 0); ", FULL_TREE = "size(1, 1); pipe(-1, 1, 0) = 0..23; ";

  /** Three HEADS whose LOW Q less NEED times 1024 are 0, 1 and -1, each in a HEAP of its number. */
  private static final String BY_ONE = "supply(8, 0); size(1, 1); size(288, 1); size(20, 1); pipe(-1, 1, 0..2) = 0..2;"
      + "head(0, 64, 181); head(1, 193, 543); head(2, 81, 229); heap() = 0..2;"
      + "put(0, 0, true); put(1, 1, true); put(2, 2, true); ";

  private static void sentence(String where, String words) { LEDGER.sentence(where, words); }
  private static House run(String script) { return LEDGER.run(script); }
  private static void go(House house, String script) { LEDGER.go(house, script); }

  private static void heap() {
    sentence("2 HEAPS, Promise 16", "HEAPS, 6 at most: its number; FULL");
    run("heap() = 0..5 FULL FULL; told(4) = 6; least(0..5) = 0; least(6) = -1000000000001");
    sentence("Promise 16", "A HEAP without HEADS");
    run(ONE + "head(0, 9, 9); heap() = 0; put(0, 0, true) = 1; heap() = 1; put(1, 0, false) = 0; put(0, 0, true) = 1;"
        + "least(1) = 0");
  }

  private static void put() {
    sentence("Promise 17", "A HEAD comes into a HEAP, or goes: how many it has");
    run(ONE + "pipe(-1, 1, 0); head(0..1, 9, 9) = 1; heap(); put(0, 0, false) = 0 0; put(0, 0, true) = 1 1;"
        + "put(0, 1, true) = 2 2;"
        + "put(0, 0, false) = 1 1; put(0, 1, false) = 0 0");
    sentence("2 HEAPS", "HEAPS are sets of HEADS (all 24, in all 6; one may be in several)");
    run(FULL_TREE + "head(0..23, 9, 0) = 1; heap() = 0..5; put(0, 0..23, true) = 1..24; put(5, 0..23, true) = 1..24;"
        + "put(1, 23, false) = 0;"
        + "put(0, 23, false) = 23; put(5, 23, true) = 24");
    sentence("Promise 17", "UNKNOWN: the HEAP");
    run(ONE + "head(0, 9, 9); put(0, 0, true) = UNKNOWN; heap(); put(1, 0, true) = UNKNOWN; put(-1, 0, true) = UNKNOWN;"
        + "put(6, 0, false) = UNKNOWN; put(MIN, 0, true) = UNKNOWN; put(MAX, 0, false) = UNKNOWN; put(0, 0, true) = 1");
    sentence("Promise 17", "UNKNOWN: the HEAD");
    run(ONE + "pipe(-1, 1, 0); head(0, 9, 9); heap(); put(0, 1, true) = UNKNOWN; put(0, 2, true) = UNKNOWN;"
        + "put(0, -1, true) = UNKNOWN;"
        + "put(0, 1, false) = UNKNOWN; put(0, MIN, true) = UNKNOWN; put(0, MAX, false) = UNKNOWN;"
        + "put(0, 32, true) = UNKNOWN; put(0, 0, false) = 0");
  }

  private static void least() {
    sentence("2 HEAPS", "An empty one is MET, its LEAST is 0");
    run(ONE + "head(0, 9, 30000); heap(); least(0) = 0; margin(0) = NONE; choose() = 1; put(0, 0, true);"
        + "put(0, 0, false) = 0; least(0) = 0; choose() = 1");
    sentence("2 HEAPS", "its LEAST is the least LOW Q less NEED times 1024 of its HEADS (1, 0 and -1 of a 1024th)");
    run(BY_ONE + "least(0..2) = 0 1 -1; put(1, 0, true) = 2; least(1) = 0; put(1, 2, true) = 3; least(1) = -1");
    run("supply(100000, 0); " + ONE + "head(0, 200, 0); heap(); put(0, 0, true); least(0) = 64762200;"
        + "head(0, 200, 30000); least(0) = 34042200;"
        + "shut(0, true); least(0) = -30720000");
    sentence("2 HEAPS", "its HEADS alone are OPEN for the while");
    House house = run("supply(1000, 4000); size(1, 1); pipe(-1, 1, 0) = 0 1; head(0..1, 200, 0) = 1; heap();"
        + "put(0, 0, true); least(0) = 6041600");
    go(house, "told(3) = 0; about(0, 7) = 0; open(1, true); least(0) = 6041600; told(3) = 1; about(0..1, 7) = 0 1;"
        + "flow(0, 0) = 0; flow(1, 0) = 6041600");
    go(house, "margin(0) = NONE; thinnest() = 0; choose() = 2; told(3) = 1; about(0..1, 7) = 0 1");
    sentence("2 HEAPS", "its HEADS alone are OPEN for the while (with another one it would not be MET)");
    String alone = "supply(1000, 4000); size(1, 1); pipe(-1, 1, 0) = 0 1; head(0, 200, 5900); head(1, 200, 0); heap();";
    run(alone + "put(0, 0, true); open(1, true); least(0) = 0; margin(0) = 1; free(0, true); choose() = 2;"
        + "put(0, 1, true) = 2; choose() = NO; margin(0) = NO; put(0, 1, false); choose() = 2; about(0..1, 7) = 0 1");
    sentence("Promise 18", "UNKNOWN: LOST less 1");
    run("heap(); least(1) = -1000000000001; least(-1) = -1000000000001; least(6) = -1000000000001;"
        + "least(MIN) = -1000000000001; least(MAX) = -1000000000001");
  }

  private static void thinnest() {
    sentence("Promise 19", "NONE: there are none");
    run(ONE + "head(0, 9, 9); open(0, true); thinnest() = NONE; heap(); thinnest() = 0");
    sentence("Promise 19", "The HEAP with the least LEAST (1, 0 and -1 of a 1024th)");
    run(BY_ONE + "thinnest() = 2; put(2, 2, false); put(2, 1, true) = 1; thinnest() = 0; put(0, 0, false);"
        + "put(0, 1, true); thinnest() = 0");
    run(BY_ONE + "put(2, 2, false); put(0, 0, false); put(0, 1, true); put(2, 0, true) = 1; thinnest() = 2");
    sentence("Promise 19", "the first such");
    run("heap() = 0..5; thinnest() = 0");
    run(BY_ONE + "heap() = 3..5; put(4, 2, true); put(5, 2, true); thinnest() = 2; put(2, 2, false); thinnest() = 4;"
        + "put(4, 2, false); thinnest() = 5");
    sentence("Promise 19", "an empty one has the LEAST 0");
    run(ONE + "head(0, 9, 0); heap() = 0 1; put(0, 0, true); thinnest() = 1; put(1, 0, true); thinnest() = 0");
  }

  private static void free() {
    sentence("2 HEAPS, Promise 20", "PIPES may be FREE, 5 at most; FULL: 5");
    run(FULL_TREE + "free(19..23, true) = 1..5; free(0, true) = FULL; free(18, true) = FULL; told(5) = 5;"
        + "about(18..19, 9) = 0 1;"
        + "free(20, false) = 4; free(0, true) = 5; about(0, 9) = 1; free(20, true) = FULL");
    sentence("Promise 20", "A PIPE is FREE, or not: how many are");
    run(ONE + "free(0, false) = 0 0; told(5) = 0; free(0, true) = 1 1; about(0, 9) = 1; free(0, false) = 0 0;"
        + "about(0, 9) = 0");
    run(FULL_TREE + "free(0..4, true) = 1..5; free(2, true) = 5; free(9, false) = 5; told(5) = 5");
    sentence("Promise 20", "UNKNOWN");
    run(ONE + "free(1, true) = UNKNOWN; free(-1, true) = UNKNOWN; free(24, true) = UNKNOWN; free(32, true) = UNKNOWN;"
        + "free(MIN, true) = UNKNOWN; free(MAX, false) = UNKNOWN; told(5) = 0");
  }

  private static void chooseAnything() {
    sentence("Promise 21", "the price of all PIPES then (no PIPES; none FREE; no HEAPS)");
    run("choose() = 0; heap(); choose() = 0");
    run("size(1, 9); size(1, 1); pipe(-1, 10, 0); choose() = 90; about(0, 2) = 0");
    run("size(1, 9); size(1, 1); pipe(-1, 10, 0); free(0, true); choose() = 10; about(0, 2) = 1; told(5) = 1;"
        + "choose() = 10; bill() = 10");
    sentence("2 HEAPS", "each FREE PIPE gets a SIZE (5 FREE of 24, 6 SIZES), the others keep theirs");
    run("size(9, 10); size(9, 9); size(9, 8); size(9, 7); size(9, 6); size(9, 5); pipe(-1, 1, 0) = 0..23;"
        + "free(1, true); free(5, true); free(9, true);"
        + "free(13, true); free(23, true) = 5; choose() = 215; about(0..1, 2) = 0 5; about(4..5, 2) = 0 5;"
        + "about(9, 2) = 5; about(13, 2) = 5; about(22..23, 2) = 0 5");
    sentence("2 HEAPS", "of several the one whose SIZES are first the lesser (equal prices)");
    run("size(9, 5); size(8, 3); size(7, 3); size(1, 3); size(1, 4); pipe(-1, 10, 4) = 0 1; free(0, true);"
        + "free(1, true); choose() = 60; about(0..1, 2) = 1");
  }

  /** Five PIPES in a row, one HEAD at their end, for whose NEED two of them must be wide: which, is left open. */
  private static String row(String sizes, String filler) {
    return "supply(1000, 0); " + sizes + "pipe(-1, 10, 0); " + filler + "head(4, 200, 5250); heap(); put(0, 4, true);"
        + "free(0..4, true) = 1..5; ";
  }

  private static void chooseFirst() {
    sentence("2 HEAPS", "of several the one whose SIZES, in order of FREE PIPES' numbers, are first the lesser");
    run(row("size(400, 1); size(1, 5); ", "pipe(0..3, 10, 0) = 1..4; ") + "choose() = 130; about(0..4, 2) = 0 0 0 1 1");
    run(row("size(1, 5); size(400, 1); ", "pipe(0..3, 10, 1) = 1..4; ") + "choose() = 130; about(0..4, 2) = 0 0 1 1 1");
    run(row("size(1, 5); size(400, 1); ", "pipe(0..3, 10, 1) = 1..4; ") + "free(0, false); free(3, false);"
        + "resize(0, 1); choose() = 130; about(0..4, 2) = 1 0 0 1 1");
    sentence("2 HEAPS", "the price of all PIPES (lengths times prices) the least");
    run("supply(1000, 0); size(400, 1); size(1, 5); pipe(-1, 10, 0); pipe(0, 9, 0); head(1, 200, 5800); heap();"
        + "put(0, 1, true); free(0, true); free(1, true);"
        + "choose() = 55; about(0..1, 2) = 0 1");
    run("supply(1000, 0); size(400, 1); size(1, 5); pipe(-1, 9, 0); pipe(0, 10, 0); head(1, 200, 5800); heap();"
        + "put(0, 1, true); free(0, true); free(1, true);"
        + "choose() = 55; about(0..1, 2) = 1 0");
  }

  private static void chooseMet() {
    sentence("2 HEAPS", "It is MET, if that is 0 or more (LEAST 0)");
    String zero = "supply(8, 0); size(33, 1); size(32, 9); pipe(-1, 1, 0); head(0, 64, 181); heap(); put(0, 0, true); ";
    run(zero + "choose() = NO; least(0) = -64; margin(0) = NO; free(0, true); choose() = 9; about(0, 2) = 1;"
        + "least(0) = 0; margin(0) = 1; free(0, false); choose() = 9");
    sentence("2 HEAPS", "It is MET, if that is 0 or more (LEAST -1)");
    String below = "supply(8, 0); size(20, 1); size(19, 9); pipe(-1, 1, 0); head(0, 81, 229); heap();"
        + "put(0, 0, true); ";
    run(below + "least(0) = -1; margin(0) = NO; choose() = NO; free(0, true); choose() = 9; about(0, 2) = 1;"
        + "least(0) = 80");
    sentence("2 HEAPS", "the least LOW Q, that hangs on HIGH g (by LOW g it would be MET)");
    String narrow = "supply(24573, 0); size(254, 1); size(348, 1); pipe(-1, 7, 0); pipe(0, 10, 1); heap(); ";
    run(narrow + "head(1, 124, 18745); put(0, 1, true); least(0) = -52; margin(0) = NO; choose() = NO;"
        + "head(1, 124, 18744); least(0) = 972; margin(0) = 1; choose() = 17");
    sentence("2 HEAPS", "so that all HEAPS are MET (the first, the last, one without water)");
    run(BY_ONE + "choose() = NO; put(2, 2, false); choose() = 3; put(2, 1, true); put(1, 2, true); choose() = NO;"
        + "put(1, 2, false); choose() = 3; put(0, 2, true) = 2; choose() = NO");
    run(ONE + "head(0, 9, 0); heap() = 0..5; put(5, 0, true); choose() = 1; head(0, 9, 1); choose() = 1;"
        + "shut(0, true); choose() = NO; head(0, 9, 0); choose() = 1; margin(5) = NONE");
    run(ONE + "head(0, 9, 1); heap(); put(0, 0, true); clog(0, 99); choose() = NO; head(0, 9, 0); clog(0, 100);"
        + "choose() = 1; least(0) = 0");
    sentence("Promise 21", "NO: there is no such choice (nothing is changed)");
    run("size(1, 9); size(400, 1); size(7, 2); pipe(-1, 10, 2) = 0 1; head(0, 9, 30000); heap(); put(0, 0, true);"
        + "free(0, true); free(1, true);"
        + "choose() = NO NO; about(0..1, 2) = 2; bill() = 40; told(3) = 0; told(5) = 2; head(0, 9, 0); choose() = 20;"
        + "about(0..1, 2) = 1");
  }

  private static void chooseAgain() {
    sentence("2 HEAPS", "each FREE PIPE gets a SIZE, whatever was chosen before");
    run("supply(5000, 4000); size(400, 3); size(5, 1); size(300, 3); pipe(-1, 10, 0); pipe(0, 5, 0); pipe(1, 1, 0);"
        + "pipe(1, 5, 0); pipe(0, 5, 2); pipe(4, 5, 2);"
        + "head(0, 200, 7072); head(1, 200, 6883); head(3, 100, 0); head(4, 200, 6783); head(5, 50, 1692);"
        + "heap() = 0 1; put(0, 0..1, true) = 1 2; put(0, 4..5, true) = 3 4;"
        + "put(1, 0, true); put(1, 3, true); free(1..4, true) = 1..4; choose() = 81; about(1..4, 2) = 2 1 1 2;"
        + "least(0..1) = 208 3973072; margin(0..1) = 1 59;"
        + "head(0, 200, 7099); head(1, 200, 6908); head(3, 100, 5405); head(4, 200, 6719); head(5, 50, 1676);"
        + "choose() = 81; about(1..4, 2) = 2 1 1 0;"
        + "free(1, false); resize(3, 0) = 1; head(0, 200, 6989); head(1, 200, 6802); choose() = 71;"
        + "about(1..4, 2) = 2 1 1 1");
    run("supply(100000, 700); size(5, 2); size(1, 9); pipe(-1, 5, 0); pipe(-1, 1, 1); head(0, 50, 0);"
        + "head(1, 50, 15760); heap(); put(0, 0..1, true) = 1 2; free(0..1, true) = 1 2;"
        + "choose() = 19; about(0..1, 2) = 0 1; least(0) = 60; margin(0) = 1; free(0, false) = 1; head(0, 50, 15759);"
        + "choose() = 19; about(1, 2) = 1;"
        + "free(1, false) = 0; resize(1, 0) = 1; head(1, 50, 15759); choose() = 12; about(0..1, 2) = 0");
    run("supply(100000, 700); size(25, 5); size(5, 1); pipe(-1, 1, 0); pipe(0, 10, 0); pipe(-1, 5, 1);"
        + "head(2, 150, 30000); heap(); put(0, 2, true); free(0..2, true) = 1..3;"
        + "choose() = 16; about(0..2, 2) = 1; free(1, false) = 2; choose() = 16; free(0, false) = 1; choose() = 16;"
        + "about(0..2, 2) = 1");
    run("size(9, 10); size(9, 9); pipe(-1, 1, 0) = 0 1; free(0..1, true) = 1 2; choose() = 18; resize(0..1, 0) = 1;"
        + "choose() = 18; free(1, false); resize(0, 0); choose() = 18;"
        + "resize(0..1, 0) = 1; choose() = 19; about(0..1, 2) = 1 0; size(9, 1) = 2; free(0, false); choose() = 19;"
        + "free(0, true); choose() = 11; about(0..1, 2) = 2 0");
  }

  private static void bill() {
    sentence("Promise 22", "The price of all PIPES (none, the least, the most)");
    run("bill() = 0; size(1, 1); bill() = 0; pipe(-1, 1, 0); bill() = 1");
    run("size(1, 1000); pipe(-1, 10, 0) = 0..23; bill() = 240000; choose() = 240000");
    run("size(1, 3); size(1, 50); pipe(-1, 7, 0); pipe(0, 2, 1); shut(0, true); bill() = 121; resize(0, 1);"
        + "bill() = 450");
  }

  /** One HEAD, alone in a HEAP, with FACTOR 1: it needs a PRESSURE above NEED times NEED. */
  private static void margin(int pressure, int need, String answer) {
    House house = run("supply(" + pressure + ", 0); " + ONE + "head(0, 1, " + need + "); heap(); put(0, 0, true);"
        + "margin(0) = " + answer);
    go(house, "pressure(-1, 0) = " + pressure * 1024 + "; told(3) = 0; margin(0) = " + answer);
  }

  private static void margins() {
    sentence("Promise 23", "The least hundredths (1 to 100): 1");
    margin(2, 1, "1");
    margin(485, 22, "1");
    margin(100000, 316, "1");
    sentence("Promise 23", "The least hundredths (1 to 100): 100 (PRESSURE 1)");
    margin(1000, 1, "100");
    margin(100000, 1, "100");
    margin(200, 1, "100");
    sentence("Promise 23", "(100 less these) hundredths of it (cut down)");
    margin(199, 1, "99");
    margin(100, 1, "99");
    margin(101, 1, "99");
    margin(3, 1, "34");
    margin(1000, 22, "52");
    margin(970, 22, "51");
    margin(969, 22, "50");
    sentence("Promise 23", "at least 1");
    margin(1, 0, "NONE");
    margin(50, 0, "NONE");
    sentence("Promise 23", "NONE: it is MET with 100, too (PRESSURE 1)");
    margin(100000, 0, "NONE");
    run("supply(99, 0); " + ONE + "head(0, 100, 99); heap(); put(0, 0, true); margin(0) = NONE; head(0, 100, 100);"
        + "margin(0) = 98");
    run("heap(); margin(0) = NONE");
    sentence("Promise 23", "NO: it is not MET as it is (LEAST -1)");
    margin(1, 1, "NO");
    margin(484, 22, "NO");
    run(BY_ONE + "margin(0..2) = 1 1 NO");
    run(ONE + "head(0, 9, 1); heap(); put(0, 0, true); shut(0, true); margin(0) = NO; head(0, 9, 0); margin(0) = NONE");
    sentence("Promise 23", "UNKNOWN");
    run("margin(0) = UNKNOWN; heap(); margin(1) = UNKNOWN; margin(-1) = UNKNOWN; margin(6) = UNKNOWN;"
        + "margin(MIN) = UNKNOWN; margin(MAX) = UNKNOWN");
  }

  public static void main(String[] args) {
    heap(); put(); least(); thinnest();
    free(); chooseAnything(); chooseFirst(); chooseMet(); chooseAgain(); bill(); margins();
    LEDGER.end();
  }
}
