/** The boundary cases of part 3 of the document, FLOORS, and of promises 24 to 31, a test for each sentence. */
public final class FloorBoundaryTest {
  private static final Ledger LEDGER = new Ledger();
  private static final String ONE = "size(1, 1); pipe(-1, 1, 0); head(0, 9, 0); ";
  private static final String TWO = "size(1, 1); pipe(-1, 1, 0) = 0 1; head(0..1, 9, 0) = 1; ";
  private static final String ALL = "size(1, 1); pipe(-1, 1, 0) = 0..23; head(0..23, 9, 0) = 1; ";

  private static void sentence(String where, String words) { LEDGER.sentence(where, words); }
  private static House run(String script) { return LEDGER.run(script); }
  private static void go(House house, String script) { LEDGER.go(house, script); }

  private static void floor() {
    sentence("3 FLOORS, Promise 24", "FLOORS have 2 to 16 rows");
    run("floor(2, 3) = 6; told(8) = 2; floor(16, 3) = 48; told(8) = 16; floor(-1..1, 3) = OUTSIDE;"
        + "floor(17, 3) = OUTSIDE;"
        + "floor(MIN, 3) = OUTSIDE; floor(MAX, 3) = OUTSIDE; told(7..9) = 48 16 3");
    sentence("3 FLOORS, Promise 24", "and columns");
    run("floor(3, 2) = 6; told(9) = 2; floor(3, 16) = 48; told(9) = 16; floor(3, -1..1) = OUTSIDE;"
        + "floor(3, 17) = OUTSIDE;"
        + "floor(3, MIN) = OUTSIDE; floor(3, MAX) = OUTSIDE; told(7..9) = 48 3 16");
    sentence("Promise 24", "how many cells (the fewest, the most)");
    run("floor(2, 2) = 4; told(7) = 4; floor(16, 16) = 256; told(7) = 256; cell(15, 15, 1) = 0; told(7) = 255;"
        + "cell(16, 15, 1) = UNKNOWN; cell(15, 16, 1) = UNKNOWN");
    sentence("Promise 24", "A floor of open cells");
    run("cell(0..1, 0..1, 1) = 0; told(7) = 0; floor(2, 2) = 4; told(7) = 4; cell(0..1, 0..1, 2) = 0; floor(3, 3) = 9;"
        + "cell(0..2, 0..2, 0) = 0");
    run("floor(16, 16); cell(15, 15, 1); cell(3, 3, 2); floor(2, 2); floor(16, 16); told(7) = 256;"
        + "cell(15, 15, 0) = 0; cell(3, 3, 0) = 0");
    sentence("Promise 24", "no HEAD STANDS");
    run(TWO + "stand(0, 0, 0, 1); stand(1, 1, 1, 1); told(6) = 2; floor(2, 2); told(6) = 0; wets(0..1, 0, 0) = STATE;"
        + "lift(0..1) = 0; cell(0, 0, 1) = 0; near(30) = NONE; dry(-1) = 3");
  }

  private static void cell() {
    sentence("3 FLOORS, Promise 25", "cells: 0 open, 1 a wall, 2 nothing: which it was");
    run("cell(0, 0, 0..2) = 0 0 1; cell(0, 0, 2) = 2; cell(0, 0, 1) = 2; cell(0, 0, 0) = 1; cell(0, 0, 0) = 0");
    sentence("Promise 25", "OUTSIDE");
    run("cell(0, 0, 1); cell(0, 0, -1) = OUTSIDE; cell(0, 0, 3) = OUTSIDE; cell(0, 0, MIN) = OUTSIDE;"
        + "cell(0, 0, MAX) = OUTSIDE; cell(0, 0, 1) = 1");
    sentence("Promise 25", "UNKNOWN (the corners and what lies beside them)");
    run("floor(3, 5); cell(0, 0, 1) = 0; cell(0, 4, 1) = 0; cell(2, 0, 1) = 0; cell(2, 4, 1) = 0;"
        + "cell(-1, 0, 1) = UNKNOWN; cell(0, -1, 1) = UNKNOWN;"
        + "cell(3, 0, 1) = UNKNOWN; cell(0, 5, 1) = UNKNOWN; cell(3, 4, 1) = UNKNOWN; cell(2, 5, 1) = UNKNOWN;"
        + "cell(-1, 5, 1) = UNKNOWN; cell(3, -1, 1) = UNKNOWN; told(7) = 11");
    run("cell(MIN, 0, 1) = UNKNOWN; cell(MAX, 0, 1) = UNKNOWN; cell(0, MIN, 1) = UNKNOWN; cell(0, MAX, 1) = UNKNOWN;"
        + "told(7) = 4");
    sentence("Promise 25", "STATE: a HEAD STANDS there");
    run(ONE + "stand(0, 1, 0, 1); cell(1, 0, 0..2) = STATE; cell(0, 1, 1) = 0; cell(0, 0, 2) = 0; cell(1, 1, 1) = 0;"
        + "told(7) = 1; lift(0); cell(1, 0, 1..2) = 0 1");
    run(ONE + "stand(0, 1, 0, 1); stand(0, 0, 1, 1); cell(1, 0, 1) = 0; cell(0, 1, 1) = STATE");
  }

  private static void stand() {
    sentence("Promise 26", "A HEAD STANDS in a cell (it stood elsewhere, or nowhere): 1");
    run(TWO + "told(6) = 0; stand(0, 0, 0, 1) = 1; told(6) = 1; stand(0, 1, 1, 1) = 1; told(6) = 1;"
        + "stand(1, 0, 0, 1) = 1; told(6) = 2; lift(0); stand(0, 0, 1, 1) = 1; told(6) = 2");
    sentence("3 FLOORS, Promise 26", "a REACH (1 to 12); OUTSIDE: REACH");
    run(ONE + "floor(2, 16); stand(0, 0, 0, 1) = 1; wets(0, 0, 1..2) = 1 0; stand(0, 0, 1, 12) = 1;"
        + "wets(0, 0, 13..14) = 1 0; stand(0, 0, 2, -1..0) = OUTSIDE;"
        + "stand(0, 0, 2, 13) = OUTSIDE; stand(0, 0, 2, MIN) = OUTSIDE; stand(0, 0, 2, MAX) = OUTSIDE;"
        + "wets(0, 0, 13..14) = 1 0; told(6) = 1");
    sentence("Promise 26", "UNKNOWN: the HEAD");
    run(ONE + "pipe(-1, 1, 0); stand(1, 0, 0, 1) = UNKNOWN; stand(2, 0, 0, 1) = UNKNOWN; stand(-1, 0, 0, 1) = UNKNOWN;"
        + "stand(MIN, 0, 0, 1) = UNKNOWN;"
        + "stand(MAX, 0, 0, 1) = UNKNOWN; stand(32, 0, 0, 1) = UNKNOWN; told(6) = 0");
    sentence("Promise 26", "UNKNOWN: the cell");
    run(ONE + "floor(3, 5); stand(0, 3, 0, 1) = UNKNOWN; stand(0, 0, 5, 1) = UNKNOWN; stand(0, -1, 0, 1) = UNKNOWN;"
        + "stand(0, 0, -1, 1) = UNKNOWN; stand(0, MIN, 0, 1) = UNKNOWN;"
        + "stand(0, MAX, 0, 1) = UNKNOWN; stand(0, 0, MIN, 1) = UNKNOWN; stand(0, 0, MAX, 1) = UNKNOWN; told(6) = 0;"
        + "stand(0, 2, 4, 1) = 1; stand(0, 0, 0, 1) = 1");
    sentence("3 FLOORS, Promise 26", "in an open cell; NO: the cell is not open");
    run(ONE + "cell(0, 0, 1); cell(0, 1, 2); stand(0, 0, 0..1, 1) = NO; told(6) = 0; stand(0, 1, 0, 1);"
        + "stand(0, 0, 0..1, 1) = NO; told(6) = 1; wets(0, 1, 0) = 1; cell(0, 0, 0); stand(0, 0, 0, 1) = 1");
    sentence("3 FLOORS, Promise 26", "(one in a cell); NO: another HEAD STANDS there");
    run(TWO + "stand(0, 0, 0, 1); stand(1, 0, 0, 1) = NO; told(6) = 1; stand(1, 0, 1, 1) = 1; stand(0, 0, 1, 1) = NO;"
        + "stand(1, 0, 0, 1) = NO; lift(0); stand(1, 0, 0, 1) = 1; stand(0, 0, 1, 1) = 1");
    run(TWO + "floor(4, 4); stand(0, 1, 1, 1); stand(0, 1, 1, 3) = 1; told(6) = 1; wets(0, 1, 3) = 1;"
        + "wets(0, 3, 3) = 1; stand(0, 1, 1, 2) = 1; wets(0, 3, 3) = 0");
    sentence("3 FLOORS", "as many as there may be: 24 HEADS STAND, in the last row too");
    run(ALL + "floor(16, 16); stand(0..15, 15, 0, 1) = 1 NO NO NO NO NO NO NO NO NO NO NO NO NO NO NO; told(6) = 1;"
        + "lift(0)");
    House house = run(ALL + "floor(16, 16)");
    for (int i = 0; i < 24; i++) go(house, "stand(" + i + ", " + (15 - i / 16) + ", " + i % 16 + ", 1) = 1");
    go(house, "told(6) = 24; near(1) = NONE; near(2) = 0; cell(15, 15, 1) = STATE; cell(14, 7, 1) = STATE;"
        + "cell(14, 8, 0) = 0; lift(23) = 1 0; told(6) = 23; dry(-1) = 217");
  }

  private static void lift() {
    sentence("Promise 27", "A HEAD STANDS nowhere: whether it did (1, 0)");
    run(TWO + "lift(0) = 0; stand(0, 0, 0, 1); lift(0) = 1 0; told(6) = 0; wets(0, 0, 0) = STATE; stand(0, 0, 0, 1);"
        + "stand(1, 1, 1, 1); lift(1) = 1 0; lift(0) = 1 0");
    sentence("Promise 27", "UNKNOWN");
    run(ONE + "pipe(-1, 1, 0); stand(0, 0, 0, 1); lift(1) = UNKNOWN; lift(2) = UNKNOWN; lift(-1) = UNKNOWN;"
        + "lift(MIN) = UNKNOWN; lift(MAX) = UNKNOWN; lift(32) = UNKNOWN; told(6) = 1");
  }

  private static void reach() {
    sentence("3 FLOORS", "the squares of rows and columns between them are together not above REACH times REACH");
    House house = run(ONE + "floor(16, 16); stand(0, 7, 7, 1); wets(0, 7, 5..9) = 0 1 1 1 0;"
        + "wets(0, 5..9, 7) = 0 1 1 1 0; wets(0, 6, 6) = 0; wets(0, 8, 8) = 0; dry(-1) = 251");
    go(house, "stand(0, 7, 7, 5); wets(0, 7, 1..3) = 0 1 1; wets(0, 10, 11) = 1; wets(0, 11, 10) = 1;"
        + "wets(0, 4, 3) = 1; wets(0, 3, 4) = 1; wets(0, 11, 11) = 0; wets(0, 10, 12) = 0; wets(0, 8, 12) = 0;"
        + "wets(0, 8, 2) = 0");
    go(house, "stand(0, 0, 0, 12); wets(0, 0, 12..13) = 1 0; wets(0, 12..13, 0) = 1 0; wets(0, 1, 12) = 0;"
        + "wets(0, 8, 8..9) = 1 0; wets(0, 15, 15) = 0");
    go(house, "stand(0, 15, 15, 12); wets(0, 15, 2..3) = 0 1; wets(0, 2..3, 15) = 0 1; wets(0, 7, 6..7) = 0 1");
    sentence("3 FLOORS", "It WETS an open cell (its own, too; no wall, no nothing)");
    run(ONE + "floor(3, 3); stand(0, 1, 1, 12); wets(0, 1, 1) = 1; wets(0, 0..2, 0..2) = 1; cell(0, 0, 1);"
        + "cell(2, 2, 2); wets(0, 0, 0) = 0; wets(0, 2, 2) = 0; dry(-1) = 0; open(0, true); wets(0, 0, 1) = 1");
  }

  private static void lines() {
    sentence("3 FLOORS", "the line goes through no inner point of a wall's cell (by a corner it may)");
    run(ONE + "floor(4, 4); stand(0, 0, 0, 12); cell(0, 1, 1); wets(0, 1, 1) = 1; cell(1, 0, 1); wets(0, 1, 1) = 1;"
        + "wets(0, 3, 3) = 1; wets(0, 0, 2) = 0; wets(0, 2, 0) = 0; wets(0, 1, 2) = 0; wets(0, 2, 1) = 0");
    run(ONE + "floor(4, 4); stand(0, 0, 0, 12); cell(1, 1, 1); wets(0, 2, 2) = 0; wets(0, 3, 3) = 0;"
        + "wets(0, 1, 2) = 0; wets(0, 2, 1) = 0; wets(0, 1, 3) = 1; wets(0, 3, 1) = 1; wets(0, 0, 3) = 1");
    run(ONE + "floor(4, 8); stand(0, 1, 1, 12); cell(1, 3, 1); wets(0, 2, 4) = 1; wets(0, 2, 5) = 0;"
        + "wets(0, 0, 4) = 1; wets(0, 0, 5) = 0; wets(0, 3, 7) = 1; wets(0, 1, 2..4) = 1 0 0; wets(0, 1, 7) = 0");
    run(ONE + "floor(8, 4); stand(0, 1, 1, 12); cell(3, 1, 1); wets(0, 4, 2) = 1; wets(0, 5, 2) = 0;"
        + "wets(0, 4, 0) = 1; wets(0, 5, 0) = 0; wets(0, 7, 3) = 1; wets(0, 2..4, 1) = 1 0 0; wets(0, 7, 1) = 0");
    sentence("3 FLOORS", "the line between the middles of both (walls before, behind and beside it do not count)");
    run(ONE + "floor(5, 5); stand(0, 2, 1, 12); cell(2, 0, 1); cell(2, 4, 1); cell(1, 2, 1); cell(3, 2, 1);"
        + "wets(0, 2, 2..4) = 1 1 0; cell(1, 1, 1); cell(3, 1, 1); wets(0, 2, 3) = 1");
    sentence("3 FLOORS", "2 nothing (outside) is no wall");
    run(ONE + "floor(4, 4); stand(0, 0, 0, 12); cell(0, 1, 2); cell(1, 1, 2); wets(0, 0, 1..3) = 0 1 1;"
        + "wets(0, 1, 1) = 0; wets(0, 2, 2) = 1");
  }

  private static void wets() {
    sentence("Promise 28", "UNKNOWN: the HEAD");
    run(ONE + "pipe(-1, 1, 0); stand(0, 0, 0, 1); wets(1, 0, 0) = UNKNOWN; wets(2, 0, 0) = UNKNOWN;"
        + "wets(-1, 0, 0) = UNKNOWN; wets(MIN, 0, 0) = UNKNOWN; wets(MAX, 0, 0) = UNKNOWN; wets(32, 0, 0) = UNKNOWN");
    sentence("Promise 28", "UNKNOWN: the cell");
    run(ONE + "floor(3, 5); stand(0, 1, 1, 12); wets(0, 2, 4) = 1; wets(0, 3, 4) = UNKNOWN; wets(0, 2, 5) = UNKNOWN;"
        + "wets(0, -1, 0) = UNKNOWN; wets(0, 0, -1) = UNKNOWN;"
        + "wets(0, MIN, 0) = UNKNOWN; wets(0, MAX, 0) = UNKNOWN; wets(0, 0, MIN) = UNKNOWN; wets(0, 0, MAX) = UNKNOWN");
    sentence("Promise 28", "STATE: it STANDS nowhere");
    run(TWO + "wets(0, 0, 0) = STATE; stand(0, 0, 0, 1); wets(0, 0, 0) = 1; wets(1, 0, 0) = STATE; lift(0);"
        + "wets(0, 0, 0) = STATE; cell(0, 0, 1); wets(0, 0, 0) = STATE");
  }

  private static void dry() {
    sentence("Promise 29", "DRY cell i (from 0), by rows: its row times 16 and its column");
    run("floor(3, 2); dry(0..5) = 0 1 16 17 32 33; floor(2, 16); dry(15..16) = 15 16; floor(16, 16); dry(255) = 255;"
        + "dry(254) = 254; dry(0) = 0");
    sentence("Promise 29", "NONE");
    run("dry(3..4) = 17 NONE; dry(MAX) = NONE; floor(16, 16); dry(256) = NONE; cell(0, 0, 1); dry(0) = 1;"
        + "dry(255) = NONE; dry(254) = 255");
    run("cell(0..1, 0..1, 1) = 0; dry(-1) = 0; dry(0) = NONE");
    sentence("Promise 29", "(i = -1: how many.)");
    run(ONE + "dry(-1) = 4; stand(0, 0, 0, 1); dry(-1) = 1; dry(0..1) = 17 NONE; stand(0, 0, 0, 2); dry(-1) = 0;"
        + "dry(0) = NONE; lift(0); dry(-1) = 4");
    sentence("3 FLOORS", "An open cell that no HEAD that STANDS WETS is DRY (walls and nothing are not)");
    run(TWO + "cell(0, 0, 1); cell(1, 1, 2); dry(-1) = 2; dry(0..2) = 1 16 NONE; stand(0, 0, 1, 1); dry(-1) = 1;"
        + "dry(0) = 16; stand(1, 1, 0, 1); dry(-1) = 0");
    run(TWO + "floor(2, 9); stand(0, 0, 0, 3); stand(1, 0, 8, 3); cell(0, 2, 1); dry(-1) = 5;"
        + "dry(0..5) = 3 4 19 20 21 NONE");
  }

  private static void near() {
    sentence("Promise 30", "(d 1 to 30); OUTSIDE");
    run(TWO + "stand(0, 0, 0, 1); stand(1, 0, 1, 1); near(-1..0) = OUTSIDE; near(1..2) = NONE 0;"
        + "near(30..31) = 0 OUTSIDE; near(MIN) = OUTSIDE; near(MAX) = OUTSIDE");
    sentence("Promise 30", "the squares of rows and columns together below d times d");
    run(TWO + "floor(16, 16); stand(0, 3, 4, 1); stand(1, 0, 0, 1); near(5..6) = NONE 0; stand(1, 6, 8, 1);"
        + "near(5..6) = NONE 0; stand(1, 3, 5, 1); near(1..2) = NONE 0; stand(1, 4, 5, 1); near(1..2) = NONE 0");
    run(TWO + "floor(16, 16); stand(0, 0, 0, 1); stand(1, 15, 15, 1); near(21..22) = NONE 0; near(30) = 0");
    sentence("Promise 30", "The first HEAD, by numbers (the 23rd with the 24th)");
    run(ALL + "floor(16, 16); stand(23, 0, 0, 1); stand(22, 0, 2, 1); near(3) = 22; stand(5, 9, 9, 1); near(3) = 22;"
        + "stand(9, 9, 10, 1); near(3) = 5; stand(0, 0, 3, 1); near(3) = 0; lift(0); lift(9); near(3) = 22");
    sentence("Promise 30", "NONE (none STANDS, one STANDS)");
    run(TWO + "near(30) = NONE; stand(0, 0, 0, 1); near(30) = NONE; stand(1, 1, 1, 1); near(30) = 0; lift(0);"
        + "near(30) = NONE; stand(0, 0, 0, 1); floor(2, 2); near(30) = NONE");
  }

  private static void told() {
    sentence("Promise 31", "0 SIZES .. 9 columns (as many as there may be)");
    run("size(1, 1) = 0..5; pipe(-1, 1, 0) = 0..23; head(0..23, 9, 0) = 1; open(0..23, true) = 0; heap() = 0..5;"
        + "free(0..4, true) = 1..5; floor(16, 15); stand(0, 0, 0, 1);"
        + "told(0..9) = 6 24 24 24 6 5 1 240 16 15");
    run("size(1, 1) = 0 1; pipe(-1, 1, 0) = 0..8; head(0..6, 9, 0) = 1; open(0..5, true) = 0; heap() = 0..2;"
        + "free(0..3, true) = 1..4; stand(0, 0, 0, 1); cell(0, 1, 1); cell(1, 1, 2);"
        + "told(0..9) = 2 9 7 6 3 4 1 2 2 2");
    sentence("Promise 31", "3 OPEN ones (SHUT, CLOGGED or not); 7 open cells (a HEAD STANDS there or not)");
    run(TWO + "open(0..1, true) = 0; shut(0, true); clog(1, 100); told(3) = 2; stand(0, 0, 0, 1); told(7) = 4");
    sentence("Promise 31", "OUTSIDE");
    run("told(-1) = OUTSIDE; told(10) = OUTSIDE; told(MIN) = OUTSIDE; told(MAX) = OUTSIDE");
  }

  public static void main(String[] args) {
    floor(); cell(); stand(); lift();
    reach(); lines(); wets();
    dry(); near(); told();
    LEDGER.end();
  }
}
