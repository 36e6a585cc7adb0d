import java.util.ArrayList;
import java.util.List;

/**
 * The first paragraph of the document's terms: a call that several refusals fit answers the first of them, and a call
 * that is refused changes nothing. For the second, twin houses are built by the same calls, one of them is refused
 * something, and then all that can be asked is asked of both.
 */
public final class RefusalTest {
  private static final Ledger LEDGER = new Ledger();

  private static final String NEW = "";
  /** Something of everything, and room for more. */
  private static final String SOME = "supply(5000, 700); size(400, 3); size(25, 40); size(1, 7);"
      + "pipe(-1, 10, 0); pipe(0, 7, 0); pipe(0, 3, 1); pipe(-1, 2, 1); pipe(2, 9, 0); pipe(4, 5, 2);"
      + "head(1, 200, 9050); head(2, 150, 7000); head(3, 60, 30000); head(4, 199, 8800); open(1..2, true) = 0;"
        + "open(4, true); clog(4, 10); shut(5, true);"
      + "heap() = 0..2; put(0, 1..2, true) = 1 2; put(1, 3, true); free(0, true); free(4, true);"
      + "floor(4, 5); cell(1, 1, 1); cell(2, 3, 2); stand(1, 0, 0, 4); stand(2, 3, 4, 2)";
  /** As many of all as there may be; PIPES 0 to 7 lie behind one another. */
  private static final String MOST = "supply(100000, 4000); size(9, 1..6) = 0..5; pipe(-1, 10, 1);"
        + "pipe(0..6, 10, 1) = 1..7; pipe(-1, 9, 2) = 8..23;"
      + "head(0..7, 200, 1) = 1; open(3..6, true) = 0; heap() = 0..5; put(0..5, 7, true) = 1; free(6..10, true) = 1..5";
  /** PIPES 0 to 7 lie behind one another, there may be more beside them. */
  private static final String DEEP = "size(9, 9); pipe(-1, 1, 0); pipe(0..6, 1, 0) = 1..7; head(7, 9, 9);"
        + "open(7, true)";

  private static void sentence(String words) { LEDGER.sentence("Terms", words); }
  private static void first(String house, String calls) { LEDGER.go(LEDGER.run(house), calls); }

  private static void constants() {
    sentence("The constants: UNKNOWN = -1, OUTSIDE = -2, STATE = -3, FULL = -4, NO = -5, NONE = -6; LOST");
    int[] all = {SprinklerHouse.UNKNOWN, SprinklerHouse.OUTSIDE, SprinklerHouse.STATE, SprinklerHouse.FULL,
        SprinklerHouse.NO, SprinklerHouse.NONE};
    for (int i = 0; i < all.length; i++) LEDGER.due("constant " + i, all[i], -1 - i);
    LEDGER.due("LOST", SprinklerHouse.LOST, -1000000000000L);
  }

  private static void firstOfTwo() {
    sentence("the first of these that fits: UNKNOWN, then OUTSIDE");
    first(SOME, "pipe(6, 0, 0) = UNKNOWN; pipe(-2, 11, 0) = UNKNOWN; pipe(0, 0, 3) = UNKNOWN;"
        + "pipe(0, 11, -1) = UNKNOWN; pipe(6, 0, 3) = UNKNOWN");
    first(SOME, "head(6, 0, 0) = UNKNOWN; head(-1, 201, 0) = UNKNOWN; head(6, 1, -1) = UNKNOWN;"
        + "head(-1, 1, 30001) = UNKNOWN");
    first(SOME, "clog(0, 101) = UNKNOWN; clog(0, -1) = UNKNOWN; clog(6, 101) = UNKNOWN; clog(-1, -1) = UNKNOWN");
    first(SOME, "conduct(6, 2) = UNKNOWN; conduct(-2, -1) = UNKNOWN; pressure(6, 2) = UNKNOWN;"
        + "pressure(-2, -1) = UNKNOWN");
    first(SOME, "flow(6, 2) = UNKNOWN; flow(-1, -1) = UNKNOWN; flow(0, 2) = UNKNOWN; about(6, 11) = UNKNOWN;"
        + "about(-1, -1) = UNKNOWN");
    first(SOME, "cell(4, 0, 3) = UNKNOWN; cell(-1, 0, -1) = UNKNOWN; cell(0, 5, 3) = UNKNOWN;"
        + "cell(0, -1, -1) = UNKNOWN");
    first(SOME, "stand(0, 1, 2, 0) = UNKNOWN; stand(6, 1, 2, 13) = UNKNOWN; stand(1, 4, 0, 0) = UNKNOWN;"
        + "stand(1, 0, 5, 13) = UNKNOWN");
    first(NEW, "pipe(-1, 0, 0) = UNKNOWN; head(0, 0, -1) = UNKNOWN; clog(0, 101) = UNKNOWN; flow(0, 2) = UNKNOWN;"
        + "about(0, 11) = UNKNOWN; stand(0, 0, 0, 0) = UNKNOWN");
    sentence("the first of these that fits: UNKNOWN, then STATE");
    first(SOME, "wets(3, 4, 0) = UNKNOWN; wets(3, 0, 5) = UNKNOWN; wets(3, -1, 0) = UNKNOWN; wets(3, 0, -1) = UNKNOWN;"
        + "wets(0, 0, 0) = UNKNOWN; wets(3, 0, 0) = STATE");
    sentence("the first of these that fits: UNKNOWN, then FULL");
    first(MOST, "pipe(24, 1, 0) = UNKNOWN; pipe(-2, 1, 0) = UNKNOWN; pipe(0, 1, 6) = UNKNOWN;"
        + "pipe(0, 1, -1) = UNKNOWN; free(24, true) = UNKNOWN; free(-1, true) = UNKNOWN");
    sentence("the first of these that fits: UNKNOWN, then NO");
    first(DEEP, "pipe(7, 1, 1) = UNKNOWN; pipe(7, 1, -1) = UNKNOWN; pipe(8, 1, 0) = UNKNOWN");
    first(SOME, "stand(0, 1, 1, 1) = UNKNOWN; stand(6, 0, 0, 1) = UNKNOWN; stand(0, 2, 3, 1) = UNKNOWN;"
        + "stand(5, 3, 4, 1) = UNKNOWN");
    sentence("the first of these that fits: OUTSIDE, then STATE");
    first(SOME, "cell(0, 0, 3) = OUTSIDE; cell(0, 0, -1) = OUTSIDE; cell(3, 4, 3) = OUTSIDE; cell(0, 0, 2) = STATE");
    sentence("the first of these that fits: OUTSIDE, then FULL");
    first(MOST, "size(0, 1) = OUTSIDE; size(401, 1) = OUTSIDE; size(1, 0) = OUTSIDE; size(1, 1001) = OUTSIDE;"
        + "size(1, 1) = FULL");
    first(MOST, "pipe(0, 0, 0) = OUTSIDE; pipe(-1, 11, 5) = OUTSIDE; pipe(-1, 1, 5) = FULL");
    sentence("the first of these that fits: OUTSIDE, then NO");
    first(DEEP, "pipe(7, 0, 0) = OUTSIDE; pipe(7, 11, 0) = OUTSIDE; pipe(7, 1, 0) = NO");
    first(SOME, "stand(1, 1, 1, 0) = OUTSIDE; stand(1, 2, 3, 13) = OUTSIDE; stand(1, 3, 4, 0) = OUTSIDE;"
        + "stand(3, 0, 0, 13) = OUTSIDE; stand(3, 0, 0, 12) = NO");
    sentence("the first of these that fits: FULL, then NO");
    first(MOST, "pipe(7, 1, 0) = FULL; pipe(7, 11, 0) = OUTSIDE; pipe(7, 11, 6) = UNKNOWN");
  }

  // ---- They change nothing

  /** What may be asked of any house without changing it. */
  private static String questions(int pipes, int rows, int columns) {
    return "told(0..9); total(0..1); worst(); thinnest(); bill(); least(0..6); margin(0..6); dry(-1..20); near(1..30);"
        + "conduct(-1.." + pipes + ", 0..1); pressure(-1.." + pipes + ", 0..1); flow(0.." + pipes + ", 0..1);"
        + "wets(1..2, 0.." + rows + ", 0.." + columns + ")";
  }

  /** What only changing calls tell, by what was: the kinds of cells, who is in a HEAP, the next numbers. */
  private static String probes(int pipes, int rows, int columns) {
    return "lift(0.." + pipes + "); cell(0.." + rows + ", 0.." + columns + ", 0); put(0..5, 0..7, true); choose();"
        + "size(1, 1); heap();"
        + "resize(0.." + pipes + ", 0); clog(0.." + pipes + ", 0); pipe(-1, 1, 0); bill()";
  }

  private static final String[][] REFUSED = {
    {NEW, "head(0, 9, 9) = UNKNOWN; open(0, true) = UNKNOWN; shut(0, true) = UNKNOWN; clog(0, 9) = UNKNOWN;"
        + "free(0, true) = UNKNOWN; pipe(-1, 9, 0) = UNKNOWN;"
        + "put(0, 0, true) = UNKNOWN; stand(0, 0, 0, 9) = UNKNOWN; lift(0) = UNKNOWN; resize(0, 0) = UNKNOWN;"
        + "floor(1, 9) = OUTSIDE; cell(0, 0, 3) = OUTSIDE; cell(2, 0, 1) = UNKNOWN"},
    {SOME, "supply(0, 9) = OUTSIDE; supply(100001, 9) = OUTSIDE; supply(9, -1) = OUTSIDE; supply(9, 4001) = OUTSIDE"},
    {SOME, "size(0, 9) = OUTSIDE; size(401, 9) = OUTSIDE; size(9, 0) = OUTSIDE; size(9, 1001) = OUTSIDE"},
    {SOME, "pipe(6, 9, 0) = UNKNOWN; pipe(-2, 9, 0) = UNKNOWN; pipe(0, 9, 3) = UNKNOWN; pipe(0, 9, -1) = UNKNOWN;"
        + "pipe(0, 0, 1) = OUTSIDE; pipe(0, 11, 1) = OUTSIDE"},
    {DEEP, "pipe(7, 9, 0) = NO; pipe(7, 0, 0) = OUTSIDE"},
    {MOST, "size(5, 5) = FULL; pipe(-1, 9, 0) = FULL; pipe(7, 9, 0) = FULL; heap() = FULL; free(5, true) = FULL;"
        + "free(23, true) = FULL"},
    {SOME, "head(6, 9, 9) = UNKNOWN; head(-1, 9, 9) = UNKNOWN; head(1, 0, 9) = OUTSIDE; head(1, 201, 9) = OUTSIDE;"
        + "head(4, 9, -1) = OUTSIDE; head(4, 9, 30001) = OUTSIDE; head(0, 9, 30001) = OUTSIDE"},
    {SOME, "open(0, true) = UNKNOWN; open(5, true) = UNKNOWN; open(6, true) = UNKNOWN; open(-1, true) = UNKNOWN;"
        + "open(MIN, false) = UNKNOWN; open(MAX, true) = UNKNOWN; open(33, false) = UNKNOWN"},
    {SOME, "shut(6, true) = UNKNOWN; shut(-1, true) = UNKNOWN; shut(MIN, true) = UNKNOWN; shut(MAX, true) = UNKNOWN;"
        + "shut(32, true) = UNKNOWN; shut(37, false) = UNKNOWN"},
    {SOME, "clog(0, 50) = UNKNOWN; clog(6, 50) = UNKNOWN; clog(-1, 50) = UNKNOWN; clog(4, -1) = OUTSIDE;"
        + "clog(4, 101) = OUTSIDE; clog(1, MAX) = OUTSIDE"},
    {SOME, "resize(6, 1) = UNKNOWN; resize(-1, 1) = UNKNOWN; resize(0, 3) = UNKNOWN; resize(0, -1) = UNKNOWN;"
        + "resize(1, 6) = UNKNOWN"},
    {SOME, "conduct(6, 0) = UNKNOWN; conduct(0, 2) = OUTSIDE; pressure(6, 0) = UNKNOWN; pressure(0, 2) = OUTSIDE;"
        + "flow(0, 0) = UNKNOWN; flow(1, 2) = OUTSIDE; total(2) = OUTSIDE; about(6, 0) = UNKNOWN;"
        + "about(0, 11) = OUTSIDE"},
    {SOME, "put(3, 1, true) = UNKNOWN; put(-1, 1, true) = UNKNOWN; put(0, 0, true) = UNKNOWN;"
        + "put(0, 5, true) = UNKNOWN; put(0, 6, true) = UNKNOWN; put(0, 33, false) = UNKNOWN;"
        + "put(3, 0, true) = UNKNOWN"},
    {SOME, "least(3) = -1000000000001; least(-1) = -1000000000001; margin(3) = UNKNOWN; margin(1) = NO; choose() = NO"},
    {MOST, "least(6) = -1000000000001; margin(6) = UNKNOWN"},
    {SOME, "free(6, true) = UNKNOWN; free(-1, true) = UNKNOWN; free(32, false) = UNKNOWN; free(33, true) = UNKNOWN"},
    {SOME, "floor(1, 9) = OUTSIDE; floor(17, 9) = OUTSIDE; floor(9, 1) = OUTSIDE; floor(9, 17) = OUTSIDE;"
        + "floor(MIN, MAX) = OUTSIDE"},
    {SOME, "cell(4, 0, 1) = UNKNOWN; cell(0, 5, 1) = UNKNOWN; cell(-1, 0, 1) = UNKNOWN; cell(0, -1, 1) = UNKNOWN;"
        + "cell(1, 1, 3) = OUTSIDE; cell(1, 1, -1) = OUTSIDE; cell(0, 0, 1) = STATE; cell(3, 4, 2) = STATE"},
    {SOME, "stand(0, 1, 2, 3) = UNKNOWN; stand(1, 4, 0, 3) = UNKNOWN; stand(1, 0, 5, 3) = UNKNOWN;"
        + "stand(1, 1, 2, 0) = OUTSIDE; stand(1, 1, 2, 13) = OUTSIDE; stand(1, 0, 0, 0) = OUTSIDE"},
    {SOME, "stand(1, 1, 1, 3) = NO; stand(1, 2, 3, 3) = NO; stand(1, 3, 4, 3) = NO; stand(3, 0, 0, 3) = NO;"
        + "stand(3, 1, 1, 3) = NO"},
    {SOME, "lift(0) = UNKNOWN; lift(6) = UNKNOWN; lift(-1) = UNKNOWN; lift(33) = UNKNOWN; wets(0, 0, 0) = UNKNOWN;"
        + "wets(1, 4, 0) = UNKNOWN; wets(3, 0, 0) = STATE"},
    {SOME, "near(0) = OUTSIDE; near(31) = OUTSIDE; told(-1) = OUTSIDE; told(10) = OUTSIDE; dry(99) = NONE"},
  };

  private static void changeNothing() {
    for (String[] row : REFUSED) {
      int pipes = row[0].equals(SOME) ? 6 : row[0].equals(MOST) ? 23 : row[0].equals(DEEP) ? 8 : 0;
      int rows = row[0].equals(SOME) ? 3 : 1, columns = row[0].equals(SOME) ? 4 : 1;
      String about = "about(0.." + pipes + ", 0..10)";
      String[] parts = {questions(pipes, rows, columns), about, probes(pipes, rows, columns)};
      List<List<Long>> before = new ArrayList<>();
      for (String part : parts) before.add(ask(LEDGER.run(row[0]), part));
      for (String refused : row[1].split(";")) {
        sentence("They change nothing: " + refused.strip());
        for (int i = 0; i < parts.length; i++) {
          House twin = LEDGER.run(row[0]);
          LEDGER.go(twin, refused);
          compare(parts[i], before.get(i), ask(twin, parts[i]));
        }
      }
    }
  }

  private static List<String> calls(String part) {
    List<String> calls = new ArrayList<>();
    for (String call : part.split(";")) calls.addAll(Ledger.expand(call.strip()));
    return calls;
  }

  private static List<Long> ask(House house, String part) {
    List<Long> answers = new ArrayList<>();
    for (String call : calls(part)) answers.add(house.call(call));
    return answers;
  }

  private static void compare(String part, List<Long> before, List<Long> after) {
    List<String> calls = calls(part);
    for (int i = 0; i < calls.size(); i++) LEDGER.due(calls.get(i) + ", after it,", after.get(i), before.get(i));
  }

  public static void main(String[] args) {
    constants();
    firstOfTwo();
    changeNothing();
    LEDGER.end();
  }
}
