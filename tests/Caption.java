/** A desk with one field's pairs: codes and letters by their signs. */
final class Caption {
  final CaptionDesk desk = new CaptionDesk();
  private final int field;

  Caption(int field) {
    this.field = field;
  }

  /** The byte of a sign that is RIGHT. */
  static int right(int sign) {
    return Integer.bitCount(sign & 127) % 2 == 1 ? sign & 127 : sign & 127 | 128;
  }

  /** The byte of a sign that is not RIGHT. */
  static int bad(int sign) {
    return right(sign) ^ 128;
  }

  /** A code of the field's first channel; a pair of nothing goes before it, so that it is never PASSED. */
  int code(int x, int y) {
    pad();
    return desk.pair(field, right(x), right(y));
  }

  /** A code of the field's second channel. */
  int code2(int x, int y) {
    return code(x + 8, y);
  }

  void pad() {
    desk.pair(field, right(0), right(0));
  }

  int letters(String text) {
    int last = CaptionDesk.NONE;
    for (int i = 0; i < text.length(); i += 2) {
      int second = i + 1 < text.length() ? text.charAt(i + 1) : 0;
      last = desk.pair(field, right(text.charAt(i)), right(second));
    }
    return last;
  }

  int pop() {
    return code(20, 32);
  }

  int paint() {
    return code(20, 41);
  }

  int roll(int depth) {
    return code(20, 35 + depth);
  }

  int text() {
    return code(20, 42);
  }

  /** The ROW code of a row, with k 0 .. 15, and underlined or not. */
  int row(int row, int k, boolean underlined) {
    int[] x = {17, 17, 18, 18, 21, 21, 22, 22, 23, 23, 16, 19, 19, 20, 20};
    boolean second = row <= 10 ? row % 2 == 0 : row == 13 || row == 15;
    return code(x[row - 1], 64 + (second ? 32 : 0) + 2 * k + (underlined ? 1 : 0));
  }

  /** The place is a row and a column 0 .. 31, LOOK 0. */
  void goTo(int row, int column) {
    row(row, 8 + column / 4, false);
    if (column % 4 > 0) {
      code(23, 32 + column % 4);
    }
  }

  /** The column is 32; the row's last cell has this letter. */
  void fillLast(int row, String letter) {
    goTo(row, 31);
    letters(letter);
  }

  int shown(int row, int column) {
    return desk.cell(2 * field, 0, row, column, 0);
  }

  int hidden(int row, int column) {
    return desk.cell(2 * field, 1, row, column, 0);
  }

  /** A row of a screen as text, an empty cell as a dot, cut behind the last letter. */
  String rowText(int screen, int row) {
    StringBuilder b = new StringBuilder();
    int last = 0;
    for (int c = 0; c < 32; c++) {
      int letter = desk.cell(2 * field, screen, row, c, 0);
      b.append(letter == 0 ? '.' : (char) letter);
      last = letter == 0 ? last : c + 1;
    }
    return b.substring(0, last);
  }

  int state(int what) {
    return desk.state(2 * field, what);
  }

  void stateIs(String what, int mode, int row, int column, int look, int depth) {
    int[] want = {mode, row, column, look, depth};
    String[] names = {"MODE", "row", "column", "LOOK", "DEPTH"};
    for (int i = 0; i < want.length; i++) {
      Check.due(what + ": " + names[i], want[i], state(i));
    }
  }

  void rowIs(String what, int screen, int row, String want) {
    String got = rowText(screen, row);
    Check.isTrue(what + ": row " + row + " is '" + got + "', due is '" + want + "'", got.equals(want));
  }
}
