/**
 * What letters and CODES do to a channel (the second half of 1 PAIRS), sentence by sentence: each
 * boundary itself and both its sides. The sentence stands above its test.
 */
public final class CodeEdgesTest {
  private static final int NONE = -1;
  private static final int POP = 1;
  private static final int ROLL = 2;
  private static final int PAINT = 3;
  private static final int TEXT = 4;
  /** The codes (y - 32 of x = 20) that make the MODES 0 .. 4; there is none for MODE none. */
  private static final int[] MODE_CODES = {-1, 0, 5, 9, 10};

  public static void main(String[] args) {
    putByMode();
    putAtLastColumns();
    emptyCells();
    rowCodeSigns();
    rowCodeWithout16();
    rowCodesByMode();
    rowCodeLooks();
    rollRowAtLeastDepth();
    rollSameRow();
    rollRowsGo();
    rollRowsOverlap();
    lookCodes();
    specialLetters();
    extendedLetters();
    extendedColumns();
    tabSigns();
    tabColumns();
    codesOf20And21();
    otherControls();
    eraseBackColumns();
    eraseOnColumns();
    eraseWithoutScreen();
    rollDepths();
    rollAnew();
    rollAlready();
    rollAlreadyRow();
    rollUpRows();
    rollUpByOtherModes();
    eraseScreens();
    changeScreens();
    Check.end("CodeEdgesTest");
  }

  /** A channel of field 0 by MODE 0 .. 4, with a CHANNEL in its field. */
  private static Caption by(int mode) {
    Caption c = new Caption(0);
    c.code(20, 34);
    if (mode > 0) {
      c.code(20, 32 + MODE_CODES[mode]);
    }
    return c;
  }

  /** By ROLL, every row full: A with look 8, B with look 9 and so on, the last one in row 15. */
  private static Caption letteredRoll(int depth) {
    Caption c = new Caption(0);
    c.roll(depth);
    for (int i = 0; i < depth; i++) {
      if (i > 0) {
        c.code(20, 45);
      }
      c.code(17, 33 + 2 * i);
      c.code(20, 33);
      c.letters(("" + (char) ('A' + i)).repeat(32));
    }
    return c;
  }

  /** Row i of a lettered roll stands at a row, from its first to its last cell; NONE: that row is empty. */
  private static void rolledRowIs(String what, Caption c, int row, int i) {
    for (int column : new int[] {0, 31}) {
      Check.due(what + ": row " + row, i == NONE ? 0 : 'A' + i, c.shown(row, column));
      Check.due(what + ": look of row " + row, i == NONE ? 0 : 8 + i, c.desk.cell(0, 0, row, column, 1));
    }
  }

  /** The rows of a lettered roll end at this row, and all others are empty. */
  private static void rolledRowsAre(String what, Caption c, int depth, int end) {
    for (int row = 1; row <= 15; row++) {
      int i = row - end + depth - 1;
      rolledRowIs(what, c, row, i >= 0 && i < depth ? i : NONE);
    }
  }

  /** "A letter is PUT: by POP to HIDDEN, by ROLL, PAINT to SHOWN, else nothing" */
  private static void putByMode() {
    for (int mode = 0; mode <= TEXT; mode++) {
      Caption c = by(mode);
      int row = mode == ROLL ? 15 : 1;
      c.letters("A");
      Check.due("shown by " + mode, mode == ROLL || mode == PAINT ? 'A' : 0, c.shown(row, 0));
      Check.due("hidden by " + mode, mode == POP ? 'A' : 0, c.hidden(row, 0));
      c.stateIs("by " + mode, mode, row, mode == 0 || mode == TEXT ? 0 : 1, 0, 2);
    }
  }

  /** "the column is one more; at column 32 it is put to 31, and the column stays." */
  private static void putAtLastColumns() {
    for (int mode = POP; mode <= PAINT; mode++) {
      int screen = mode == POP ? 1 : 0;
      Caption c = by(mode);
      c.goTo(7, 30);
      c.letters("x");
      Check.due("from 30", 31, c.state(2));
      Check.due("cell 31 is empty", 0, c.desk.cell(0, screen, 7, 31, 0));
      c.letters("y");
      Check.due("from 31", 32, c.state(2));
      Check.due("cell 31", 'y', c.desk.cell(0, screen, 7, 31, 0));
      c.code(17, 35);
      Check.due("from 32", 32, c.state(2));
      Check.due("put to 31", 32, c.desk.cell(0, screen, 7, 31, 0));
      Check.due("with the LOOK", 9, c.desk.cell(0, screen, 7, 31, 1));
      c.letters("zz");
      Check.due("from 32 twice", 32, c.state(2));
      Check.due("cell 30 stays", 'x', c.desk.cell(0, screen, 7, 30, 0));
      Check.due("cell 31 is the latest", 'z', c.desk.cell(0, screen, 7, 31, 0));
      Check.due("no letter in the next row", 0, c.desk.cell(0, screen, 8, 0, 0));
      Check.due("the row stays", 7, c.state(1));
    }
  }

  /** "A cell is empty (letter 0, look 0), or has a letter and a look": an emptied one has neither. */
  private static void emptyCells() {
    Caption c = by(PAINT);
    c.row(3, 7, true);
    c.letters("AB");
    Check.due("slanted and underlined", 15, c.desk.cell(0, 0, 3, 0, 1));
    c.code(20, 33);
    Check.due("emptied by 1", 0, c.shown(3, 1));
    Check.due("no look", 0, c.desk.cell(0, 0, 3, 1, 1));
    Check.due("the one before", 15, c.desk.cell(0, 0, 3, 0, 1));
    c.letters("B");
    c.goTo(3, 1);
    c.code(20, 36);
    Check.due("emptied by 4", 0, c.shown(3, 1));
    Check.due("no look by 4", 0, c.desk.cell(0, 0, 3, 1, 1));
    c.code(20, 44);
    Check.due("emptied by 12", 0, c.shown(3, 0));
    Check.due("no look by 12", 0, c.desk.cell(0, 0, 3, 0, 1));
    c.code(17, 32);
    c.letters("C");
    Check.due("a letter with look 0", 'C', c.shown(3, 2));
    Check.due("look 0", 0, c.desk.cell(0, 0, 3, 2, 1));
  }

  /**
   * "y 64 .. 127", "ROW: by x 17, 18, 21, 22, 23, 16, 19, 20: 1, 3, 5, 7, 9, 11, 12, 14, and one more
   * with bit 32 of y."
   */
  private static void rowCodeSigns() {
    int[] x = {17, 18, 21, 22, 23, 16, 19, 20};
    int[] rows = {1, 3, 5, 7, 9, 11, 12, 14};
    for (int i = 0; i < x.length; i++) {
      for (int y : new int[] {64, 95, 96, 127}) {
        boolean isRow = x[i] != 16 || y < 96;
        Caption c = by(PAINT);
        c.goTo(10, 13);
        Check.due("a code", 0, c.code(x[i], y));
        int want = rows[i] + (y >= 96 ? 1 : 0);
        Check.due("row of " + x[i] + ", " + y, isRow ? want : 10, c.state(1));
        int column = y == 64 || y == 96 ? 0 : 28;
        Check.due("column of " + x[i] + ", " + y, isRow ? column : 13, c.state(2));
      }
      Caption below = by(PAINT);
      below.goTo(10, 13);
      below.code(x[i], 63);
      Check.due("63 is no ROW, " + x[i], 10, below.state(1));
    }
  }

  /** "(not x = 16 with bit 32 of y)": the code is one of its channel, and does nothing. */
  private static void rowCodeWithout16() {
    for (int y = 96; y < 128; y++) {
      Caption c = by(PAINT);
      c.row(10, 3, true);
      Check.due("16, " + y, 0, c.code(16, y));
      c.stateIs("16, " + y, PAINT, 10, 0, 11, 2);
      Check.due("it can be PASSED", 8, c.desk.pair(0, Caption.right(16), Caption.right(y)));
    }
  }

  /** "Nothing, if MODE is none or TEXT." */
  private static void rowCodesByMode() {
    for (int mode = 0; mode <= TEXT; mode++) {
      Caption c = by(mode);
      Check.due("ROW by " + mode, 0, c.row(9, 11, true));
      if (mode == 0 || mode == TEXT) {
        c.stateIs("ROW by " + mode, mode, 1, 0, 0, 2);
      } else {
        c.stateIs("ROW by " + mode, mode, 9, 12, 8, 2);
      }
    }
  }

  /**
   * "k = (y / 2) modulo 16: below 8: LOOK k, column 0; else LOOK 0, column 4 (k - 8). LOOK 8 more, if
   * y is odd."
   */
  private static void rowCodeLooks() {
    for (int y = 64; y < 128; y++) {
      Caption c = by(POP);
      c.row(3, 5, true);
      c.letters("a");
      c.code(21, y);
      int k = y / 2 % 16;
      int look = (k < 8 ? k : 0) + (y % 2 == 1 ? 8 : 0);
      c.stateIs("ROW " + y, POP, y < 96 ? 5 : 6, k < 8 ? 0 : 4 * k - 32, look, 2);
    }
  }

  /** "By ROLL: the row is DEPTH at least" */
  private static void rollRowAtLeastDepth() {
    for (int depth = 2; depth <= 4; depth++) {
      for (int row = 1; row <= 5; row++) {
        Caption c = letteredRoll(depth);
        c.row(row, 2, false);
        int want = Math.max(row, depth);
        c.stateIs("DEPTH " + depth + ", ROW " + row, ROLL, want, 0, 2, depth);
        rolledRowsAre("DEPTH " + depth + ", ROW " + row, c, depth, want);
      }
    }
    Caption other = by(PAINT);
    other.row(1, 0, false);
    Check.due("not by PAINT", 1, other.state(1));
    other.pop();
    other.row(1, 0, false);
    Check.due("not by POP", 1, other.state(1));
  }

  /** "if it is another one than that of the place": by the same one no row goes. */
  private static void rollSameRow() {
    for (int depth = 2; depth <= 4; depth++) {
      Caption c = letteredRoll(depth);
      c.row(15, 9, true);
      c.stateIs("the same row", ROLL, 15, 4, 8, depth);
      rolledRowsAre("the same row", c, depth, 15);
      c.row(depth, 0, false);
      c.row(1, 0, false);
      c.stateIs("the same by DEPTH at least", ROLL, depth, 0, 0, depth);
      rolledRowsAre("the same by DEPTH at least", c, depth, depth);
    }
  }

  /** "the DEPTH rows of SHOWN that end there (at the old one) go to end at the new one" */
  private static void rollRowsGo() {
    for (int depth = 2; depth <= 4; depth++) {
      for (int row = depth; row <= 15; row++) {
        Caption c = letteredRoll(depth);
        c.row(row, 0, false);
        rolledRowsAre("from 15 to " + row, c, depth, row);
        c.row(15, 0, false);
        rolledRowsAre("back from " + row, c, depth, 15);
      }
    }
  }

  /** "in their order, rows that they leave are empty": where old and new rows overlap, and just not. */
  private static void rollRowsOverlap() {
    for (int depth = 2; depth <= 4; depth++) {
      for (int by = 1; by <= depth + 1; by++) {
        Caption up = letteredRoll(depth);
        up.row(15 - by, 0, false);
        rolledRowsAre("up by " + by, up, depth, 15 - by);
        Caption down = letteredRoll(depth);
        down.row(8, 0, false);
        down.row(8 + by, 0, false);
        rolledRowsAre("down by " + by, down, depth, 8 + by);
      }
    }
  }

  /** "x = 17, y 32 .. 47: LOOK is (y / 2) modulo 8, and 8 more if y is odd; then a letter 32 is PUT." */
  private static void lookCodes() {
    for (int y = 32; y < 48; y++) {
      for (int mode = 0; mode <= TEXT; mode++) {
        Caption c = by(mode);
        c.code(17, y);
        int look = (y - 32) / 2 + y % 2 * 8;
        boolean puts = mode >= POP && mode <= PAINT;
        c.stateIs("look " + y, mode, mode == ROLL ? 15 : 1, puts ? 1 : 0, look, 2);
        Check.due("its space", puts ? 32 : 0, c.desk.cell(0, mode == POP ? 1 : 0, c.state(1), 0, 0));
        Check.due("with the new LOOK", puts ? look : 0, c.desk.cell(0, mode == POP ? 1 : 0, c.state(1), 0, 1));
      }
    }
  }

  /** "x = 17, y 48 .. 63: a letter 256 + y - 48 is PUT.": the LOOK stays. */
  private static void specialLetters() {
    for (int y = 48; y < 64; y++) {
      Caption c = by(PAINT);
      c.row(2, 3, false);
      c.code(17, y);
      c.stateIs("special " + y, PAINT, 2, 1, 3, 2);
      Check.due("its letter", 208 + y, c.shown(2, 0));
      Check.due("its look", 3, c.desk.cell(0, 0, 2, 0, 1));
    }
    Caption edges = by(PAINT);
    edges.code(17, 47);
    Check.due("47 is a look", 32, edges.shown(1, 0));
    edges.code(17, 64);
    edges.stateIs("64 is a ROW", PAINT, 1, 0, 0, 2);
  }

  /** "a letter 272 + 32 (x - 18) + y - 32 is PUT" */
  private static void extendedLetters() {
    for (int y = 32; y < 64; y++) {
      for (int x = 18; x <= 19; x++) {
        Caption c = by(PAINT);
        c.row(2, 3, false);
        c.letters("ab");
        c.code(x, y);
        c.stateIs("extended " + x + ", " + y, PAINT, 2, 2, 3, 2);
        Check.due("its letter", (x == 18 ? 240 : 272) + y, c.shown(2, 1));
        Check.due("the one before", 'a', c.shown(2, 0));
        Check.due("the next cell", 0, c.shown(2, 2));
      }
    }
    Caption other = by(PAINT);
    other.letters("ab");
    other.code(22, 32);
    other.code(16, 63);
    other.rowIs("not by 16, 22", 0, 1, "ab");
    other.code(18, 64);
    Check.due("64 is a ROW", 3, other.state(1));
  }

  /** "the column is one less (0 stays)" */
  private static void extendedColumns() {
    Caption c = by(POP);
    c.code(18, 32);
    Check.due("at 0: put to 0", 272, c.hidden(1, 0));
    Check.due("column 1", 1, c.state(2));
    c.code(19, 32);
    Check.due("at 1: put to 0", 304, c.hidden(1, 0));
    Check.due("column 1 again", 1, c.state(2));
    Check.due("nothing at 1", 0, c.hidden(1, 1));
    c.goTo(4, 31);
    c.code(18, 33);
    Check.due("at 31: put to 30", 273, c.hidden(4, 30));
    Check.due("column 31", 31, c.state(2));
    c.letters("Q");
    c.code(18, 34);
    Check.due("at 32: put to 31", 274, c.hidden(4, 31));
    Check.due("column 32", 32, c.state(2));
    Check.due("30 stays", 273, c.hidden(4, 30));
    c.text();
    c.code(18, 34);
    Check.due("by TEXT one less", 31, c.state(2));
    Check.due("and nothing is PUT", 273, c.hidden(4, 30));
    Caption none = by(0);
    none.code(18, 34);
    Check.due("by MODE none 0 stays", 0, none.state(2));
  }

  /** "x = 23, y 33 .. 35: the column is so many more (y - 32" */
  private static void tabSigns() {
    for (int y = 32; y < 64; y++) {
      for (int x = 16; x <= 23; x++) {
        if (x == 16 || x >= 22) {
          Caption c = by(PAINT);
          c.goTo(6, 4);
          c.code(x, y);
          boolean isTab = x == 23 && y >= 33 && y <= 35;
          c.stateIs("tab " + x + ", " + y, PAINT, 6, isTab ? y - 28 : 4, 0, 2);
        }
      }
    }
  }

  /** "31 at most, but 32 stays)." */
  private static void tabColumns() {
    for (int column = 27; column <= 32; column++) {
      for (int more = 1; more <= 3; more++) {
        Caption c = by(PAINT);
        if (column == 32) {
          c.fillLast(6, "x");
        } else {
          c.goTo(6, column);
        }
        Check.due("column before", column, c.state(2));
        c.code(23, 32 + more);
        Check.due(column + " and " + more, column == 32 ? 32 : Math.min(31, column + more), c.state(2));
        Check.due("nothing is put", 0, c.shown(6, 30));
      }
    }
  }

  /** "x = 20, 21, by y - 32": both do the same, and no other x does. */
  private static void codesOf20And21() {
    int[] wantMode = {POP, PAINT, PAINT, PAINT, PAINT, ROLL, ROLL, ROLL, PAINT, PAINT, TEXT, TEXT, PAINT, PAINT,
      PAINT, POP};
    for (int what = 0; what < 16; what++) {
      for (int x = 20; x <= 21; x++) {
        Caption c = by(PAINT);
        Check.due("its answer", 0, c.code(x, 32 + what));
        Check.due("MODE by " + x + ", " + what, wantMode[what], c.state(0));
      }
      Caption other = by(PAINT);
      other.code(22, 32 + what);
      other.code(16, 32 + what);
      other.stateIs("not by 16, 22: " + what, PAINT, 1, 0, 0, 2);
    }
  }

  /** "Others: nothing." */
  private static void otherControls() {
    for (int what = 0; what < 32; what++) {
      boolean isOther = what == 2 || what == 3 || what == 8 || what > 15;
      for (int x = 20; isOther && x <= 21; x++) {
        for (int mode = 0; mode <= TEXT; mode++) {
          Caption c = by(mode);
          c.letters("AB");
          int[] before = {c.state(0), c.state(1), c.state(2), c.state(3), c.state(4)};
          Check.due("its answer", 0, c.code(x, 32 + what));
          c.stateIs("by " + what, before[0], before[1], before[2], before[3], before[4]);
          boolean puts = mode >= POP && mode <= PAINT;
          c.rowIs("by " + what, mode == POP ? 1 : 0, before[1], puts ? "AB" : "");
        }
      }
    }
  }

  /** "1: the column is one less, its cell", "is empty (not at column 0" */
  private static void eraseBackColumns() {
    for (int mode = POP; mode <= PAINT; mode++) {
      int screen = mode == POP ? 1 : 0;
      Caption c = by(mode);
      c.row(9, 1, false);
      c.letters("ab");
      c.row(9, 1, false);
      c.code(20, 33);
      Check.due("at 0 it stays", 0, c.state(2));
      c.rowIs("at 0", screen, 9, "ab");
      c.goTo(9, 1);
      c.code(20, 33);
      Check.due("at 1", 0, c.state(2));
      c.rowIs("at 1", screen, 9, ".b");
      c.goTo(9, 30);
      c.letters("yz");
      c.code(20, 33);
      Check.due("at 32", 31, c.state(2));
      Check.due("31 is empty", 0, c.desk.cell(0, screen, 9, 31, 0));
      Check.due("30 is not", 'y', c.desk.cell(0, screen, 9, 30, 0));
      c.code(20, 33);
      Check.due("at 31", 30, c.state(2));
      Check.due("30 is empty", 0, c.desk.cell(0, screen, 9, 30, 0));
      c.code(20, 33);
      c.rowIs("an empty cell", screen, 9, ".b");
      Check.due("at 30", 29, c.state(2));
      Check.due("the row stays", 9, c.state(1));
    }
  }

  /** "4: the cells of its row from the column on are empty (likewise)." */
  private static void eraseOnColumns() {
    String full = "abcdefghijklmnopqrstuvwxyzABCDEF";
    for (int column : new int[] {0, 1, 2, 15, 30, 31, 32}) {
      for (int mode = POP; mode <= PAINT; mode++) {
        int screen = mode == POP ? 1 : 0;
        Caption c = by(mode);
        c.goTo(9, 0);
        c.letters(full);
        if (column < 32) {
          c.goTo(9, column);
        }
        c.code(20, 36);
        c.rowIs("from " + column, screen, 9, column == 0 ? full : full.substring(0, column));
        Check.due("the column stays", column, c.state(2));
      }
    }
    Caption rows = by(PAINT);
    for (int row = 8; row <= 10; row++) {
      rows.goTo(row, 0);
      rows.letters("abc");
    }
    rows.goTo(9, 1);
    rows.code(20, 36);
    rows.rowIs("the row above", 0, 8, "abc");
    rows.rowIs("its row", 0, 9, "a");
    rows.rowIs("the row below", 0, 10, "abc");
  }

  /** "nor without such a screen)": codes 1 and 4 by MODE none and TEXT; by POP SHOWN stays. */
  private static void eraseWithoutScreen() {
    for (int what : new int[] {1, 4}) {
      Caption c = by(PAINT);
      c.letters("abc");
      c.goTo(1, 2);
      c.text();
      c.code(20, 32 + what);
      Check.due("by TEXT the column stays", 2, c.state(2));
      c.rowIs("by TEXT", 0, 1, "abc");
      c.pop();
      c.code(20, 32 + what);
      c.rowIs("by POP SHOWN stays", 0, 1, "abc");
      Caption none = by(0);
      none.code(23, 35);
      none.code(20, 32 + what);
      none.stateIs("by none", 0, 1, 3, 0, 2);
      Caption hidden = by(POP);
      hidden.letters("abc");
      hidden.paint();
      hidden.goTo(1, 2);
      hidden.code(20, 32 + what);
      hidden.rowIs("by PAINT HIDDEN stays", 1, 1, "abc");
    }
  }

  /** "5, 6, 7: ROLL with DEPTH 2, 3, 4" */
  private static void rollDepths() {
    for (int what = 4; what <= 8; what++) {
      Caption c = by(POP);
      c.code(20, 32 + what);
      boolean rolls = what >= 5 && what <= 7;
      c.stateIs("by " + what, rolls ? ROLL : POP, rolls ? 15 : 1, 0, 0, rolls ? what - 3 : 2);
    }
    Caption stays = by(ROLL);
    stays.roll(4);
    for (int mode : new int[] {POP, PAINT, TEXT}) {
      stays.code(20, 32 + MODE_CODES[mode]);
      Check.due("DEPTH stays by MODE " + mode, 4, stays.state(4));
    }
  }

  /** "else both screens are empty, row 15; the column is 0, LOOK 0." */
  private static void rollAnew() {
    for (int mode : new int[] {POP, PAINT, TEXT}) {
      Caption c = corneredBy(mode);
      c.row(1, 5, true);
      c.roll(3);
      c.stateIs("ROLL from " + mode, ROLL, 15, 0, 0, 3);
      for (int screen = 0; screen < 2; screen++) {
        c.rowIs("emptied", screen, 1, "");
        c.rowIs("emptied", screen, 15, "");
      }
    }
    Caption none = new Caption(0);
    none.code(17, 35);
    none.roll(2);
    none.stateIs("ROLL from none", ROLL, 15, 0, 0, 2);
  }

  /** "if MODE is ROLL already: rows of SHOWN above the DEPTH rows that end at the place's row are empty" */
  private static void rollAlready() {
    for (int before = 2; before <= 4; before++) {
      for (int now = 2; now <= 4; now++) {
        for (int end : new int[] {before, before + 1, 10, 15}) {
          Caption c = letteredRoll(before);
          c.row(end, 9, true);
          c.roll(now);
          String what = "DEPTH " + before + " to " + now + " at " + end;
          c.stateIs(what, ROLL, Math.max(end, now), 0, 0, now);
          for (int row = 1; row <= 15; row++) {
            int i = row - end + before - 1;
            boolean stays = i >= 0 && i < before && row > end - now;
            rolledRowIs(what, c, row, stays ? i : NONE);
          }
        }
      }
    }
  }

  /** "the row is DEPTH at least": and no row of SHOWN goes by that. */
  private static void rollAlreadyRow() {
    for (int row = 2; row <= 5; row++) {
      for (int now = 2; now <= 4; now++) {
        Caption c = letteredRoll(2);
        c.row(row, 0, false);
        c.roll(now);
        c.stateIs("row " + row + ", DEPTH " + now, ROLL, Math.max(row, now), 0, 0, now);
        rolledRowsAre("row " + row + ", DEPTH " + now, c, 2, row);
      }
    }
  }

  /**
   * "13: by ROLL: of the DEPTH rows of SHOWN that end at the place's row each takes what is below it,
   * that row is empty, column 0, LOOK 0."
   */
  private static void rollUpRows() {
    for (int depth = 2; depth <= 4; depth++) {
      for (int end : new int[] {depth, depth + 1, 14, 15}) {
        Caption c = letteredRoll(depth);
        c.row(end, 9, true);
        c.code(20, 45);
        String what = "DEPTH " + depth + " up at " + end;
        c.stateIs(what, ROLL, end, 0, 0, depth);
        for (int row = 1; row <= 15; row++) {
          int i = row - end + depth;
          rolledRowIs(what, c, row, i >= 1 && i < depth ? i : NONE);
        }
      }
    }
  }

  private static void rollUpByOtherModes() {
    for (int mode : new int[] {POP, PAINT, TEXT}) {
      Caption c = by(PAINT);
      c.row(15, 0, false);
      c.code(17, 35);
      c.letters("a");
      c.code(20, 32 + MODE_CODES[mode]);
      c.code(20, 45);
      c.stateIs("not by " + mode, mode, 15, 2, 9, 2);
      Check.due("SHOWN stays", 'a', c.shown(15, 1));
    }
    Caption none = by(0);
    none.code(17, 35);
    none.code(20, 45);
    none.stateIs("not by none", 0, 1, 0, 9, 2);
  }

  /** "12: SHOWN is empty.", "14: HIDDEN is empty.": to the last cell, and the place stays. */
  private static void eraseScreens() {
    for (int mode : new int[] {POP, PAINT, TEXT}) {
      for (int what : new int[] {12, 14}) {
        Caption c = corneredBy(mode);
        c.code(20, 32 + what);
        c.stateIs("by " + what, mode, 15, 32, 0, 2);
        for (int screen = 0; screen < 2; screen++) {
          int want = screen == (what == 12 ? 0 : 1) ? 0 : 'c';
          Check.due("the first cell", want, c.desk.cell(0, screen, 1, 0, 0));
          Check.due("the last cell", want, c.desk.cell(0, screen, 15, 31, 0));
        }
      }
    }
    Caption roll = letteredRoll(2);
    roll.code(20, 46);
    rolledRowsAre("14 by ROLL", roll, 2, 15);
    roll.code(20, 44);
    roll.rowIs("12 by ROLL", 0, 15, "");
    roll.stateIs("12 by ROLL", ROLL, 15, 32, 9, 2);
  }

  /** By a MODE at the end of row 15, with letters in the first and last cells of both screens. */
  private static Caption corneredBy(int mode) {
    Caption c = by(POP);
    for (int screen = 0; screen < 2; screen++) {
      c.goTo(1, 0);
      c.letters("c");
      c.fillLast(15, "c");
      c.paint();
    }
    c.code(20, 32 + MODE_CODES[mode]);
    return c;
  }

  /** "15: both screens change places; POP." */
  private static void changeScreens() {
    for (int mode = 0; mode <= TEXT; mode++) {
      Caption c = by(mode);
      c.letters("ab");
      int row = c.state(1);
      int column = c.state(2);
      c.code(20, 47);
      c.stateIs("15 from " + mode, POP, row, column, 0, 2);
      c.rowIs("from HIDDEN", 0, row, mode == POP ? "ab" : "");
      c.rowIs("from SHOWN", 1, row, mode == ROLL || mode == PAINT ? "ab" : "");
      c.letters("c");
      Check.due("put to HIDDEN", 'c', c.hidden(row, column));
      c.code(20, 47);
      Check.due("back", 'c', c.shown(row, column));
    }
  }
}
