/**
 * The boundary cases of part 1 of the document, WATER, and of promises 1 to 15, a test for each sentence. The numbers
 * that are due were reckoned apart, in Python, from the document's words.
 */
public final class WaterBoundaryTest {
  private static final Ledger LEDGER = new Ledger();

  private static void sentence(String where, String words) { LEDGER.sentence(where, words); }
  private static House run(String script) { return LEDGER.run(script); }
  private static void go(House house, String script) { LEDGER.go(house, script); }

  /** One PIPE from the SUPPLY with an OPEN HEAD; SUPPLY without DRAG. */
  private static House one(int pressure, int length, int drag, int factor) {
    return run("supply(" + pressure + ", 0); size(" + drag + ", 1); pipe(-1, " + length + ", 0); head(0, " + factor
        + ", 0); open(0, true)");
  }

  /** Two PIPES behind one another, an OPEN HEAD at the end of the second. */
  private static House two(int pressure, int length, int drag, int length2, int drag2, int factor) {
    return run("supply(" + pressure + ", 0); size(" + drag + ", 1); size(" + drag2 + ", 1); pipe(-1, " + length
        + ", 0); pipe(0, " + length2 + ", 1); head(1, " + factor + ", 0); open(1, true)");
  }

  // ---- Promise 1

  private static void newObject() {
    sentence("Promise 1", "PRESSURE 1000, DRAG 0");
    run("pressure(-1, 0..1) = 1024000");
    run("size(400, 1); pipe(-1, 10, 0); head(0, 200, 0); open(0, true); pressure(-1, 0..1) = 1024000");
    run("size(1, 1); pipe(-1, 1, 0); head(0, 200, 0); open(0, true); conduct(-1, 0..1) = 204796 204797");
    sentence("Promise 1", "no SIZES");
    run("told(0) = 0; pipe(-1, 1, 0) = UNKNOWN; size(1, 1) = 0; pipe(-1, 1, 1) = UNKNOWN; pipe(-1, 1, 0) = 0");
    sentence("Promise 1", "no PIPES");
    run("told(1) = 0; told(2..3) = 0; told(5..6) = 0; head(0, 1, 0) = UNKNOWN; open(0, true) = UNKNOWN");
    run("shut(0, true) = UNKNOWN; clog(0, 1) = UNKNOWN; free(0, true) = UNKNOWN; about(0, 0..10) = UNKNOWN");
    run("conduct(0, 0) = UNKNOWN; pressure(0, 0) = UNKNOWN; flow(0, 0) = UNKNOWN; size(1, 1) = 0;"
        + "resize(0, 0) = UNKNOWN");
    run("stand(0, 0, 0, 1) = UNKNOWN; lift(0) = UNKNOWN; wets(0, 0, 0) = UNKNOWN");
    run("conduct(-1, 0..1) = 0; total(0..1) = 0; worst() = NONE; bill() = 0; choose() = 0; near(30) = NONE");
    sentence("Promise 1", "no HEAPS");
    run("told(4) = 0; least(0) = -1000000000001; margin(0) = UNKNOWN; thinnest() = NONE; heap() = 0; told(4) = 1");
    run("size(1, 1); pipe(-1, 1, 0); head(0, 1, 0); put(0, 0, true) = UNKNOWN");
    sentence("Promise 1", "a floor of 2 by 2 open cells");
    run("told(7..9) = 4 2 2; cell(0..1, 0..1, 0) = 0; cell(2, 0, 0) = UNKNOWN; cell(0, 2, 0) = UNKNOWN");
    run("dry(-1) = 4; dry(0..4) = 0 1 16 17 NONE");
    sentence("Promise 1", "a new object has nothing of another one");
    run("supply(7, 7); size(1, 1) = 0..5; pipe(-1, 1, 0); head(0, 1, 0); open(0, true); heap() = 0..5; floor(9, 9)");
    run("told(0..9) = 0 0 0 0 0 0 0 4 2 2; pressure(-1, 0) = 1024000");
  }

  private static void lastCall() {
    sentence("What it is", "An object is used for at most 512 calls");
    House house = run("size(1, 1); pipe(-1, 1, 0); head(0, 200, 0); free(0, true); heap(); put(0, 0, true)");
    go(house, "open(0, true) = 0");
    for (int i = 0; i < 62; i++)
      go(house, "flow(0, 0) = 6476200; choose() = 1; margin(0) = NONE; dry(3) = 17; shut(0, true) = 0; flow(0, 1) = 0;"
          + "worst() = 0; shut(0, false) = 1");
    go(house, "total(1) = 6476400; least(0) = 6476200; head(0, 1, 1) = 1; open(0, true) = 0; supply(1, 0) = 1;"
        + "least(0) = -1");
    go(house, "told(0..1) = 1; flow(0, 0) = 1023");
  }

  // ---- Promises 2 to 4

  private static void supply() {
    sentence("1 WATER, Promise 2", "a PRESSURE (1 to 100000)");
    run("supply(1, 0) = 1; pressure(-1, 0..1) = 1024");
    run("supply(100000, 0) = 1; pressure(-1, 0..1) = 102400000");
    run("supply(-1..0, 0) = OUTSIDE; supply(MIN, 0) = OUTSIDE; pressure(-1, 0) = 1024000");
    run("supply(100001, 0) = OUTSIDE; supply(MAX, 0) = OUTSIDE; pressure(-1, 0) = 1024000");
    sentence("1 WATER, Promise 2", "and a DRAG (0 to 4000)");
    String water = "size(1, 1); pipe(-1, 1, 0); head(0, 200, 0); open(0, true); conduct(-1, 0..1) = ";
    run("supply(1000, 4000) = 1; " + water + "191055 191057; pressure(-1, 0..1) = 891204 891206");
    run("supply(1000, 4000) = 1; supply(1000, 0) = 1; " + water + "204796 204797");
    run("supply(1000, -1) = OUTSIDE; supply(1000, MIN) = OUTSIDE; " + water + "204796 204797");
    run("supply(1000, 4001) = OUTSIDE; supply(1000, MAX) = OUTSIDE; " + water + "204796 204797");
    sentence("Promise 2", "OUTSIDE, whichever of the two it is");
    run("supply(0, 4001) = OUTSIDE; supply(100001, -1) = OUTSIDE; supply(MAX, MIN) = OUTSIDE");
  }

  private static void size() {
    sentence("1 WATER, Promise 3", "SIZES have a DRAG a metre (1 to 400)");
    run("size(1, 1) = 0; pipe(-1, 1, 0); head(0, 200, 0); open(0, true); conduct(0, 0..1) = 204796 204797");
    run("size(400, 1) = 0; pipe(-1, 10, 0); head(0, 200, 0); open(0, true); conduct(0, 0..1) = 191059 191060");
    run("size(-1..0, 1) = OUTSIDE; size(401, 1) = OUTSIDE; size(MIN, 1) = OUTSIDE; size(MAX, 1) = OUTSIDE;"
        + "told(0) = 0");
    sentence("1 WATER, Promise 3", "and a price a metre (1 to 1000)");
    run("size(1, 1) = 0; pipe(-1, 1, 0); bill() = 1");
    run("size(1, 1000) = 0; pipe(-1, 1, 0); bill() = 1000");
    run("size(1, -1..0) = OUTSIDE; size(1, 1001) = OUTSIDE; size(1, MIN) = OUTSIDE; size(1, MAX) = OUTSIDE;"
        + "told(0) = 0");
    sentence("1 WATER, Promise 3", "SIZES, 6 at most, numbered from 0 on; FULL");
    run("size(1, 1) = 0..5 FULL FULL; told(0) = 6; pipe(-1, 1, 0..5) = 0..5; pipe(-1, 1, 6) = UNKNOWN");
    run("size(9, 1..6) = 0..5; size(1, 1) = FULL; pipe(-1, 1, 0..5) = 0..5; bill() = 21");
    run("size(0, 1) = OUTSIDE; size(3, 3) = 0; size(1, 0) = OUTSIDE; size(3, 3) = 1");
  }

  private static void pipe() {
    sentence("1 WATER, Promise 4", "from the SUPPLY (-1) or another one's end; UNKNOWN: that one");
    run("size(1, 1); pipe(0, 1, 0) = UNKNOWN; pipe(-2, 1, 0) = UNKNOWN; pipe(-1, 1, 0) = 0; pipe(1, 1, 0) = UNKNOWN");
    run("size(1, 1); pipe(-1, 1, 0) = 0; pipe(0, 1, 0) = 1; pipe(1, 1, 0) = 2; about(0..2, 0) = -1..1");
    run("size(1, 1); pipe(-1, 1, 0); pipe(MIN, 1, 0) = UNKNOWN; pipe(MAX, 1, 0) = UNKNOWN; pipe(24, 1, 0) = UNKNOWN");
    sentence("Promise 4", "UNKNOWN: the SIZE");
    run("size(1, 1); size(2, 2); pipe(-1, 1, 2) = UNKNOWN; pipe(-1, 1, -1) = UNKNOWN; pipe(-1, 1, 0..1) = 0..1");
    run("size(1, 1); pipe(-1, 1, MIN) = UNKNOWN; pipe(-1, 1, MAX) = UNKNOWN; pipe(-1, 1, 6) = UNKNOWN; told(1) = 0");
    sentence("1 WATER, Promise 4", "a length (1 to 10 metres); OUTSIDE: length");
    run("size(1, 7); pipe(-1, 1, 0) = 0; bill() = 7; pipe(-1, 10, 0) = 1; bill() = 77; about(0..1, 1) = 1 10");
    run("size(1, 1); pipe(-1, -1..0, 0) = OUTSIDE; pipe(-1, 11, 0) = OUTSIDE; pipe(-1, MIN, 0) = OUTSIDE");
    run("size(1, 1); pipe(-1, MAX, 0) = OUTSIDE; told(1) = 0; bill() = 0; pipe(-1, 1, 0) = 0");
    sentence("1 WATER, Promise 4", "PIPES, 24 at most, numbered from 0 on; FULL");
    run("size(1, 1); pipe(-1, 1, 0) = 0..23 FULL FULL; told(1) = 24; head(0..23, 1, 0) = 1; head(24, 1, 0) = UNKNOWN");
    run("size(1, 1); pipe(-1, 1, 0) = 0..23; pipe(0, 1, 0) = FULL; pipe(23, 1, 0) = FULL; about(0..23, 10) = 0;"
        + "bill() = 24");
    sentence("1 WATER", "the DRAG of a PIPE is length times DRAG a metre");
    run("size(20, 1); size(200, 1); pipe(-1, 10, 0); pipe(-1, 1, 1); head(0..1, 200, 0) = 1; open(0, true);"
        + "conduct(0, 0) = 204041;"
        + "open(0, false); open(1, true); conduct(1, 0) = 204041");
    steps();
  }

  private static void steps() {
    sentence("Promise 4", "NO: the other one begins the ninth step from the SUPPLY (8 behind one another at most)");
    run("size(1, 1); pipe(-1, 1, 0) = 0; pipe(0..6, 1, 0) = 1..7; pipe(7, 1, 0) = NO NO; pipe(6, 1, 0) = 8 9;"
        + "pipe(8, 1, 0) = NO");
    run("size(1, 1); pipe(-1, 1, 0) = 0..9; pipe(9..15, 1, 0) = 10..16; pipe(16, 1, 0) = NO; pipe(15, 1, 0) = 17;"
        + "pipe(8, 1, 0) = 18; pipe(18..22, 1, 0) = 19..23; told(1) = 24");
    run("size(1, 1); pipe(-1, 1, 0) = 0..2; pipe(0..20, 1, 0) = 3..23; told(1) = 24; about(20, 10) = 1;"
        + "about(21..23, 10) = 0");
    run("size(1, 1); pipe(-1, 1, 0) = 0..1; pipe(0..13, 1, 0) = 2..15; pipe(14, 1, 0) = NO; pipe(15, 1, 0) = NO;"
        + "told(1) = 16");
  }

  // ---- Promises 5 to 9

  private static final String ONE = "size(1, 1); pipe(-1, 1, 0); ";

  private static void head() {
    sentence("1 WATER, Promise 5", "a HEAD with a FACTOR (1 to 200)");
    run(ONE + "head(0, 1, 0) = 1; about(0, 5) = 1; head(0, 200, 0) = 1; about(0, 5) = 200");
    run(ONE + "head(0, -1..0, 0) = OUTSIDE; head(0, 201, 0) = OUTSIDE; head(0, MIN, 0) = OUTSIDE;"
        + "head(0, MAX, 0) = OUTSIDE;"
        + "told(2) = 0; about(0, 4) = 0; open(0, true) = UNKNOWN");
    sentence("1 WATER, Promise 5", "and a NEED (0 to 30000)");
    run(ONE + "head(0, 1, 30000) = 1; about(0, 6) = 30000; head(0, 1, 0) = 1; about(0, 6) = 0");
    run(ONE + "head(0, 1, -1) = OUTSIDE; head(0, 1, 30001) = OUTSIDE; head(0, 1, MIN) = OUTSIDE;"
        + "head(0, 1, MAX) = OUTSIDE;"
        + "told(2) = 0; about(0, 4) = 0; clog(0, 0) = UNKNOWN");
    sentence("Promise 5", "at a PIPE's end; UNKNOWN");
    run(ONE + "head(-2..-1, 1, 0) = UNKNOWN; head(1, 1, 0) = UNKNOWN; head(MIN, 1, 0) = UNKNOWN;"
        + "head(MAX, 1, 0) = UNKNOWN");
    sentence("Promise 5", "not OPEN, not CLOGGED");
    run(ONE + "head(0, 9, 0); about(0, 7..8) = 0; told(2..3) = 1 0; flow(0, 1) = 0; conduct(0, 1) = 0;"
        + "open(0, true) = 0");
    sentence("Promise 5", "anew if there is one: 1");
    run(ONE + "head(0, 9, 5); open(0, true); clog(0, 50); head(0, 10, 6) = 1; about(0, 4..8) = 1 10 6 0 0;"
        + "told(2..3) = 1 0;"
        + "flow(0, 1) = 0; clog(0, 1) = 0; open(0, true) = 0");
    run(ONE + "head(0, 9, 5); open(0, true); head(0, 9, 5) = 1; about(0, 4..8) = 1 9 5 0 0");
    sentence("Promise 5", "(it keeps where it STANDS, and HEAPS)");
    run(ONE + "pipe(-1, 1, 0); head(0..1, 9, 0) = 1; stand(0, 1, 1, 1); head(0, 8, 0) = 1; told(6) = 1;"
        + "wets(0, 1, 0) = 1;"
        + "wets(0, 0, 0) = 0; stand(1, 1, 1, 1) = NO; cell(1, 1, 0) = STATE; lift(0) = 1");
    run(ONE + "head(0, 9, 0); heap() = 0 1 2; put(0, 0, true); put(2, 0, true); head(0, 200, 0) = 1;"
        + "put(0, 0, true) = 1;"
        + "put(1, 0, false) = 0; put(2, 0, true) = 1; least(0..2) = 6476200 0 6476200");
    run(ONE + "head(0, 9, 0); lift(0) = 0; head(0, 9, 0) = 1; lift(0) = 0; heap(); put(0, 0, false) = 0;"
        + "head(0, 9, 0) = 1; put(0, 0, false) = 0");
  }

  private static void openAndShut() {
    sentence("Promise 6", "A HEAD is OPEN, or not: whether it was (1, 0)");
    run(ONE + "head(0, 9, 0); open(0, false) = 0 0; open(0, true) = 0 1 1; told(3) = 1; open(0, false) = 1 0;"
        + "told(3) = 0");
    sentence("Promise 6", "UNKNOWN: it is none");
    run(ONE + "pipe(-1, 1, 0); head(0, 9, 0); open(1, true) = UNKNOWN; open(2, true) = UNKNOWN;"
        + "open(-1, false) = UNKNOWN;"
        + "open(MIN, true) = UNKNOWN; open(MAX, true) = UNKNOWN; open(32, true) = UNKNOWN; told(3) = 0;"
        + "about(0..1, 7) = 0");
    sentence("Promise 7", "A PIPE is SHUT, or not: whether it was");
    run(ONE + "shut(0, false) = 0 0; shut(0, true) = 0 1 1; about(0, 3) = 1; shut(0, false) = 1 0; about(0, 3) = 0");
    sentence("Promise 7", "UNKNOWN");
    run(ONE + "shut(1, true) = UNKNOWN; shut(-1, true) = UNKNOWN; shut(MIN, true) = UNKNOWN; shut(MAX, true) = UNKNOWN;"
        + "shut(32, true) = UNKNOWN; about(0, 3) = 0; pipe(-1, 1, 0) = 1; about(1, 3) = 0; pressure(-1, 0) = 1024000");
    sentence("Promises 6, 7", "the last of 24");
    run("size(1, 1); pipe(-1, 1, 0) = 0..23; head(23, 9, 0); open(23, true) = 0 1; shut(23, true) = 0 1;"
        + "about(22..23, 3) = 0 1");
  }

  private static void clog() {
    sentence("1 WATER, Promise 8", "CLOGGED by so many hundredths (0 to 100) or not: by how much it was");
    run(ONE + "head(0, 200, 0); clog(0, 0) = 0; clog(0, 100) = 0; about(0, 8) = 100; clog(0, 1) = 100; clog(0, 99) = 1;"
        + "clog(0, 0) = 99; about(0, 8) = 0");
    run(ONE + "head(0, 200, 0); clog(0, 7); clog(0, -1) = OUTSIDE; clog(0, 101) = OUTSIDE; clog(0, MIN) = OUTSIDE;"
        + "clog(0, MAX) = OUTSIDE; about(0, 8) = 7; about(0, 5) = 186");
    sentence("1 WATER", "its FACTOR is then that much less (cut down)");
    run(ONE + "head(0, 200, 0); clog(0, 0..2) = 0 0 1; about(0, 5) = 196; clog(0, 99) = 2; about(0, 5) = 2;"
        + "clog(0, 100); about(0, 5) = 0");
    run(ONE + "head(0, 199, 0); clog(0, 1); about(0, 5) = 197; clog(0, 50); about(0, 5) = 99; clog(0, 99);"
        + "about(0, 5) = 1");
    run(ONE + "head(0, 3, 0); clog(0, 33); about(0, 5) = 2; clog(0, 34); about(0, 5) = 1; clog(0, 67);"
        + "about(0, 5) = 0");
    run(ONE + "head(0, 1, 0); clog(0, 1); about(0, 5) = 0; clog(0, 0); about(0, 5) = 1");
    sentence("1 WATER", "G of a HEAD: FACTOR that it has now; Q of a HEAD with FACTOR k");
    run(ONE + "supply(10, 0); resize(0, 0); head(0, 60, 0); clog(0, 50); open(0, true);"
        + "conduct(0, 0..1) = 30719 30720");
    run("supply(10, 0); size(275, 1); pipe(-1, 5, 0); head(0, 61, 0); clog(0, 50); open(0, true);"
        + "flow(0, 0..1) = 97080 97110");
    sentence("Promise 8", "UNKNOWN");
    run(ONE + "clog(0, 1) = UNKNOWN; clog(1, 1) = UNKNOWN; clog(-1, 1) = UNKNOWN; clog(MIN, 1) = UNKNOWN;"
        + "clog(MAX, 1) = UNKNOWN");
  }

  private static void resize() {
    sentence("Promise 9", "A PIPE has another SIZE: which it had");
    run("size(1, 1); size(1, 5); size(400, 9); pipe(-1, 10, 0); resize(0, 0) = 0; resize(0, 2) = 0; bill() = 90;"
        + "resize(0, 1) = 2;"
        + "bill() = 50; about(0, 2) = 1; resize(0, 2) = 1; head(0, 200, 0); open(0, true);"
        + "conduct(0, 0..1) = 191059 191060");
    sentence("Promise 9", "UNKNOWN: the PIPE");
    run(ONE + "resize(1, 0) = UNKNOWN; resize(-1, 0) = UNKNOWN; resize(MIN, 0) = UNKNOWN; resize(MAX, 0) = UNKNOWN");
    sentence("Promise 9", "UNKNOWN: the SIZE");
    run(ONE + "resize(0, 1) = UNKNOWN; resize(0, -1) = UNKNOWN; resize(0, MIN) = UNKNOWN; resize(0, MAX) = UNKNOWN;"
        + "about(0, 2) = 0");
    run("size(1, 1) = 0..5; pipe(-1, 1, 0); resize(0, 5) = 0; resize(0, 6) = UNKNOWN; about(0, 2) = 5");
  }

  // ---- WIDTHS

  private static void roots() {
    sentence("1 WATER", "ROOT UP n: the least whose square is not below n (of D, that is no square)");
    go(one(2, 4, 306, 71), "conduct(0, 0) = 72495");
    sentence("1 WATER", "ROOT UP n: the least whose square is not below n (of D, that is 2 to the 50)");
    go(one(2, 4, 306, 71), "conduct(-1, 0) = 72495");
    sentence("1 WATER", "ROOT n: the greatest whole number whose square is not above n (of D)");
    go(one(9, 1, 48, 103), "conduct(0, 1) = 105448; conduct(-1, 1) = 105448");
    sentence("1 WATER", "Q, LOW: k times ROOT of (LOW P times 1024)");
    go(one(3, 3, 400, 150), "flow(0, 0) = 262650");
    sentence("1 WATER", "Q, HIGH: k times ROOT UP of (HIGH P times 1024), no square");
    go(one(10, 5, 275, 30), "flow(0, 1) = 97110");
    sentence("1 WATER", "Q, HIGH: k times ROOT UP of (HIGH P times 1024), a square");
    go(one(14161, 1, 3, 3), "flow(0, 1) = 365568; flow(0, 0) = 365565");
    go(one(4, 1, 1, 1), "flow(0, 1) = 2048; flow(0, 0) = 2047");
  }

  private static void quotients() {
    sentence("1 WATER", "G, LOW: the quotient is cut down");
    go(one(1000, 1, 55, 71), "conduct(0, 0) = 72694");
    sentence("1 WATER", "G, LOW: the quotient is cut down (the rest one below the divisor)");
    go(one(1000, 1, 21, 47), "supply(1000, 1113); conduct(-1, 0) = 48070");
    sentence("1 WATER", "G, HIGH: UP, the next whole number, if there is a rest");
    go(one(100, 4, 248, 176), "conduct(0, 1) = 177700");
    sentence("1 WATER", "G, HIGH: UP, the next whole number, if there is a rest (of 1)");
    go(one(1000, 1, 359, 77), "supply(1000, 420); conduct(-1, 1) = 78680");
    sentence("1 WATER", "G, HIGH: UP, but there is no rest");
    go(one(3, 1, 30, 1), "conduct(0, 1) = 1024; conduct(-1, 1) = 1024");
    sentence("1 WATER", "E, LOW: by HIGH g");
    go(two(5000, 1, 340, 1, 111, 35), "pressure(0, 0) = 5118014");
    sentence("1 WATER", "E, LOW: the quotient UP, there is a rest");
    go(two(100000, 4, 202, 3, 203, 165), "pressure(0, 0) = 100374871");
    sentence("1 WATER", "E, LOW: the quotient UP, there is a rest (of 1)");
    go(two(100000, 3, 355, 1, 41, 65), "pressure(0, 0) = 101972736");
    sentence("1 WATER", "E, LOW: the quotient UP, there is no rest");
    go(one(2, 2, 381, 149), "pressure(0, 0) = 2016; pressure(-1, 0) = 2048");
    sentence("1 WATER", "E, HIGH: by LOW g");
    go(two(5000, 2, 372, 3, 297, 45), "pressure(0, 1) = 5112839");
    go(two(50000, 5, 355, 5, 325, 82), "pressure(0, 1) = 50642768");
    sentence("1 WATER", "E, HIGH: the quotient cut");
    go(two(100000, 8, 269, 3, 354, 18), "pressure(0, 1) = 102333571");
    sentence("1 WATER", "E, HIGH: the quotient cut (the rest one below the divisor)");
    go(two(99999, 7, 233, 7, 249, 153), "pressure(0, 1) = 99007378");
    sentence("1 WATER", "P, LOW: by E, cut down");
    go(one(4, 2, 400, 60), "pressure(0, 0) = 4085");
    sentence("1 WATER", "P, LOW: by E, cut down (the rest one below the divisor)");
    go(one(94357, 3, 215, 5), "pressure(0, 0) = 96620116");
    sentence("1 WATER", "P, HIGH: UP by E, there is a rest");
    go(one(4, 1, 147, 168), "pressure(0, 1) = 4081");
    sentence("1 WATER", "P, HIGH: UP by E, there is a rest (of 1)");
    go(one(7486, 5, 361, 107), "pressure(0, 1) = 7520916");
    sentence("1 WATER", "P, HIGH: UP by E, there is no rest");
    go(one(1, 3, 143, 103), "pressure(-1, 1) = 1024; pressure(0, 1) = 1020");
    sentence("1 WATER", "the least numbers that there are");
    go(one(1, 1, 1, 1), "conduct(0, 0..1) = 1023 1024; pressure(0, 0..1) = 1023 1024; flow(0, 0..1) = 1023 1024");
    sentence("1 WATER", "the greatest DRAGS and PRESSURE that there are");
    House house = one(1, 10, 400, 200);
    go(house, "supply(100000, 4000); conduct(-1, 0..1) = 179758 179759; conduct(0, 0..1) = 191059 191060");
    go(house, "pressure(-1, 0..1) = 90644497 90644607; pressure(0, 0..1) = 78889104 78889201;"
        + "flow(0, 0..1) = 56844400 56844600");
  }

  // ---- Promises 10 to 13

  private static void sides() {
    sentence("Promises 10 to 13", "side = 0 LOW, 1 HIGH; OUTSIDE: side");
    String[] calls = {"conduct(0, ", "conduct(-1, ", "pressure(0, ", "pressure(-1, ", "flow(0, ", "total("};
    for (String call : calls)
      for (String side : new String[] {"-1", "2", "MIN", "MAX"}) {
        go(one(1000, 1, 1, 200), call + side + ") = OUTSIDE");
        run(ONE + "head(0, 1, 0); " + call + side + ") = OUTSIDE");
      }
    String dragged = "supply(1000, 4000); " + ONE + "head(0, 200, 0); open(0, true); ";
    sentence("Promise 10", "G of a PIPE; -1 as the PIPE: of all; UNKNOWN");
    run(dragged + "conduct(-1, 0..1) = 191055 191057; conduct(0, 0..1) = 204796 204797; conduct(-2, 0) = UNKNOWN;"
        + "conduct(1, 0) = UNKNOWN;"
        + "conduct(24, 1) = UNKNOWN; conduct(MIN, 0) = UNKNOWN; conduct(MAX, 1) = UNKNOWN");
    sentence("Promise 11", "P of a PIPE's end; -1: behind the SUPPLY's DRAG; UNKNOWN");
    run(dragged + "pressure(-1, 0..1) = 891204 891206; pressure(0, 0..1) = 891170 891173; pressure(-2, 0) = UNKNOWN;"
        + "pressure(1, 0) = UNKNOWN;"
        + "pressure(24, 1) = UNKNOWN; pressure(MIN, 0) = UNKNOWN; pressure(MAX, 1) = UNKNOWN");
    sentence("Promise 12", "Q of a HEAD; UNKNOWN");
    run(ONE + "pipe(-1, 1, 0); head(0, 9, 0); flow(1, 0) = UNKNOWN; flow(2, 0) = UNKNOWN; flow(-1, 0) = UNKNOWN;"
        + "flow(-2, 1) = UNKNOWN;"
        + "flow(MIN, 0) = UNKNOWN; flow(MAX, 1) = UNKNOWN; flow(0, 0..1) = 0");
    sentence("Promise 13", "Q of all HEADS together (there are none; none is OPEN; 24 are)");
    run("total(0..1) = 0");
    run(ONE + "total(0..1) = 0; head(0, 200, 0); total(0..1) = 0; open(0, true); total(0..1) = 6476200 6476400");
    run("size(1, 1); pipe(-1, 1, 0) = 0..23; head(0..23, 200, 0) = 1; open(0..23, true) = 0;"
        + "total(0..1) = 155428800 155433600;"
        + "open(23, false); total(0) = 148952600; open(0, false); total(0) = 142476400");
  }

  private static void withoutFlow() {
    sentence("1 WATER", "G of a HEAD: 0, if it is not OPEN; Q of one that is not OPEN 0");
    go(one(1000, 1, 1, 200), "open(0, false); conduct(-1..0, 0) = 0; conduct(-1..0, 1) = 0; flow(0, 0..1) = 0;"
        + "pressure(0, 0..1) = 1024000");
    sentence("1 WATER", "no HEAD with a FACTOR above 0 is OPEN: no flow and the pressure of their beginning");
    go(one(1000, 10, 400, 200), "clog(0, 100); flow(0, 0..1) = 0; pressure(0, 0..1) = 1024000; conduct(0, 1) = 0;"
        + "told(3) = 1");
    run("supply(1000, 4000); size(1, 1); pipe(-1, 1, 0); pipe(-1, 10, 0); pipe(1, 10, 0); head(0, 200, 0);"
        + "open(0, true);"
        + "pressure(1..2, 0) = 891204; pressure(1..2, 1) = 891206");
    sentence("1 WATER", "G of an end: that of its HEAD and those of the PIPES that begin there, added");
    run("size(1, 1); pipe(-1, 1, 0); pipe(0, 1, 0) = 1 2; head(0..2, 1, 0) = 1; open(0..2, true) = 0;"
        + "conduct(0, 0..1) = 3069 3072;"
        + "open(1, false); conduct(0, 0..1) = 2046 2048; open(0, false); conduct(0, 0..1) = 1022 1024");
    sentence("1 WATER", "G of a PIPE (0 of a SHUT one)");
    go(two(1000, 1, 1, 1, 1, 200), "shut(0, true); conduct(0, 0..1) = 0; conduct(-1, 0..1) = 0; shut(0, false) = 1;"
        + "conduct(-1, 0) = 204792");
    sentence("1 WATER", "what lies behind a SHUT one has the pressure 0 (Of a SHUT PIPE, and behind it: 0.)");
    House house = run("size(1, 1); pipe(-1, 1, 0); pipe(0..2, 1, 0) = 1..3; pipe(0, 1, 0) = 4; head(0..4, 200, 0) = 1;"
        + "open(0..4, true) = 0");
    go(house, "shut(1, true); pressure(1..3, 0) = 0; pressure(1..3, 1) = 0; flow(1..3, 0) = 0; flow(1..3, 1) = 0;"
        + "conduct(3, 0) = 204796");
    go(house, "open(0, false); open(4, false); pressure(0, 0..1) = 1024000; pressure(4, 0..1) = 1024000;"
        + "pressure(1, 0..1) = 0");
    go(house, "shut(0, true); pressure(0..4, 0) = 0; pressure(-1, 0..1) = 1024000; shut(0, false); shut(1, false) = 1;"
        + "pressure(3, 0) = 1023120");
  }

  // ---- Promises 14 and 15

  private static void about() {
    sentence("Promise 14", "0 from which one (-1) .. 10 PIPES that begin at its end");
    run("size(1, 1); size(2, 2); pipe(-1, 7, 1); head(0, 50, 60); pipe(0, 1, 0);"
        + "about(0, 0..10) = -1 7 1 0 1 50 60 0 0 0 1");
    run("size(1, 1); pipe(-1, 7, 0); head(0, 50, 60); shut(0, true); open(0, true); clog(0, 9); free(0, true);"
        + "about(0, 0..10) = -1 7 0 1 1 45 60 1 9 1 0");
    sentence("Promise 14", "OUTSIDE");
    run(ONE + "about(0, -1) = OUTSIDE; about(0, 11) = OUTSIDE; about(0, MIN) = OUTSIDE; about(0, MAX) = OUTSIDE");
    sentence("Promise 14", "UNKNOWN");
    run(ONE + "about(-1, 0) = UNKNOWN; about(1, 0) = UNKNOWN; about(24, 4) = UNKNOWN; about(MIN, 0) = UNKNOWN;"
        + "about(MAX, 10) = UNKNOWN");
    sentence("Promise 14", "10 PIPES that begin at its end (none; those behind them not; 23)");
    run("size(1, 1); pipe(-1, 1, 0); about(0, 10) = 0; pipe(0, 1, 0) = 1; pipe(1, 1, 0) = 2 3; pipe(-1, 1, 0) = 4;"
        + "about(0..4, 10) = 1 2 0 0 0");
    run("size(1, 1); pipe(-1, 1, 0); pipe(0, 1, 0) = 1..23; about(0, 10) = 23");
  }

  private static void worst() {
    sentence("Promise 15", "NONE");
    run("worst() = NONE");
    run(ONE + "worst() = NONE; head(0, 1, 30000); worst() = NONE; open(0, true); worst() = 0; open(0, false);"
        + "worst() = NONE");
    sentence("Promise 15", "the least of all that are OPEN (0, 1 and -1 of a 1024th)");
    run("supply(8, 0); size(1, 1); size(288, 1); size(20, 1); pipe(-1, 1, 0..2) = 0..2; head(0, 64, 181);"
        + "head(1, 193, 543); head(2, 81, 229);"
        + "open(0..2, true) = 0; worst() = 2; open(2, false); worst() = 0; open(0, false); worst() = 1");
    sentence("Promise 15", "of all that are OPEN (one whose FACTOR is 0, one behind a SHUT PIPE)");
    run("size(1, 1); pipe(-1, 1, 0) = 0..2; head(0..2, 9, 0) = 1; open(0..2, true) = 0; clog(1, 100); worst() = 1;"
        + "shut(0, true); worst() = 0; open(0..1, false) = 1; worst() = 2; clog(2, 100); worst() = 2; told(3) = 1");
    sentence("Promise 15", "the first such");
    run("size(1, 1); pipe(-1, 1, 0) = 0..23; head(0..23, 9, 9) = 1; open(3..23, true) = 0; worst() = 3;"
        + "open(23, false) = 1; open(3, false) = 1;"
        + "worst() = 4; open(0, true); worst() = 0; head(23, 9, 10); open(23, true); worst() = 23");
    sentence("Promise 15", "LOW Q less its NEED times 1024 (one without water, one with all)");
    run("size(1, 1); pipe(-1, 1, 0) = 0..2; head(0, 200, 6325); head(1, 1, 30000); head(2, 200, 30000); open(0, true);"
        + "worst() = 0;"
        + "open(2, true); worst() = 2; open(1, true); worst() = 1; shut(2, true); worst() = 2");
  }

  public static void main(String[] args) {
    newObject(); lastCall();
    supply(); size(); pipe();
    head(); openAndShut(); clog(); resize();
    roots(); quotients(); sides(); withoutFlow();
    about(); worst();
    LEDGER.end();
  }
}
