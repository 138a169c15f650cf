/** Captions as they come: ordinary runs for promises 2 to 5. PairEdgesTest and CodeEdgesTest have the edges. */
public final class PairsTest {
  public static void main(String[] args) {
    passedCodes();
    channelsOfFields();
    letterPairs();
    modesOfPut();
    rowCodes();
    rowCodesByMode();
    looks();
    specialLetters();
    eraseBack();
    eraseOn();
    rollBegins();
    rollAgain();
    rollUp();
    rolledRowsMove();
    screens();
    Check.end("PairsTest");
  }

  private static void passedCodes() {
    Caption c = new Caption(0);
    CaptionDesk d = c.desk;
    int a = Caption.right(20);
    int pop = Caption.right(32);
    int paint = Caption.right(41);
    Check.due("first", 0, d.pair(0, a, pop));
    Check.due("second", 8, d.pair(0, a, pop));
    Check.due("third", 0, d.pair(0, a, pop));
    Check.due("fourth", 8, d.pair(0, a, pop));
    Check.due("another", 0, d.pair(0, a, paint));
    Check.due("the first again", 0, d.pair(0, a, pop));
    Check.due("another first sign", 0, d.pair(0, Caption.right(17), pop));
    Check.due("other channel", 1, d.pair(0, Caption.right(28), pop));
    Check.due("back", 0, d.pair(0, a, pop));
    Check.due("other field", 2, d.pair(1, a, pop));
    Check.due("the fields do not mix", 8, d.pair(0, a, pop));
    Check.due("nor this one", 8, d.pair(1, a, pop));
    d.pair(0, a, pop);
    d.pair(0, Caption.bad(20), pop);
    Check.due("behind a pair of nothing", 0, d.pair(0, a, pop));
    d.pair(0, Caption.right(0), Caption.right(0));
    Check.due("behind zeros", 0, d.pair(0, a, pop));
    d.pair(0, Caption.right(20), Caption.bad(32));
    Check.due("behind a spoilt code", 0, d.pair(0, a, pop));
    d.pair(0, Caption.right(65), Caption.right(66));
    Check.due("behind letters", 0, d.pair(0, a, pop));
    Check.due("passed at last", 8, d.pair(0, a, pop));

    Caption p = new Caption(0);
    p.paint();
    for (int i = 0; i < 4; i++) {
      p.desk.pair(0, Caption.right(17), Caption.right(48));
    }
    Check.due("a passed code does nothing", 2, p.state(2));
  }

  private static void channelsOfFields() {
    Caption c = new Caption(1);
    Check.due("field 1", 2, c.paint());
    Check.due("its channel", 2, c.desk.channel(1));
    Check.due("second channel", 3, c.code2(20, 41));
    Check.due("channel 3", 3, c.desk.channel(1));
    c.letters("AB");
    Check.due("letters to 3", 66, c.desk.cell(3, 0, 1, 1, 0));
    Check.due("not to 2", 0, c.desk.cell(2, 0, 1, 0, 0));
    Check.due("field 0 has none", -1, c.desk.channel(0));
    Check.due("a code without meaning", 2, c.code(20, 63));
    Check.due("makes it the channel", 2, c.desk.channel(1));
  }

  private static void letterPairs() {
    Caption c = new Caption(0);
    Check.due("letters to no channel", -1, c.letters("AB"));
    c.code(20, 63);
    Check.due("letters by no mode", 9, c.letters("AB"));
    Check.due("put nowhere", 0, c.state(2));
    c.paint();
    Check.due("two letters", 9, c.letters("AB"));
    c.desk.pair(0, Caption.right(67), Caption.bad(68));
    c.desk.pair(0, Caption.right(69), Caption.right(31));
    c.desk.pair(0, Caption.right(32), Caption.right(127));
    c.desk.pair(0, Caption.right(127), Caption.right(32));
    c.desk.pair(0, Caption.right(70), Caption.bad(5));
    Check.isTrue("what came", c.rowText(0, 1).equals("ABC\u007FE \u007F\u007F F\u007F"));
  }

  private static void modesOfPut() {
    Caption c = new Caption(0);
    c.pop();
    Check.due("POP", 1, c.state(0));
    c.letters("A");
    Check.due("hidden", 65, c.hidden(1, 0));
    Check.due("not shown", 0, c.shown(1, 0));
    c.paint();
    Check.due("PAINT", 3, c.state(0));
    c.letters("B");
    Check.due("shown behind it", 66, c.shown(1, 1));
    c.text();
    Check.due("TEXT", 4, c.state(0));
    Check.due("letters by TEXT", 9, c.letters("C"));
    Check.due("the column stays", 2, c.state(2));
    c.paint();
    c.code(20, 43);
    Check.due("TEXT by 11", 4, c.state(0));
    c.roll(2);
    Check.due("ROLL", 2, c.state(0));
    c.letters("D");
    Check.due("shown by ROLL", 68, c.shown(15, 0));
    c.code(21, 32);
    Check.due("21 is as 20", 1, c.state(0));
  }

  private static void rowCodes() {
    for (int row = 1; row <= 15; row++) {
      Caption c = new Caption(row % 2);
      c.paint();
      Check.due("answer", 2 * (row % 2), c.row(row, 3, row % 2 == 0));
      Check.due("row " + row, row, c.state(1));
      Check.due("look", row % 2 == 0 ? 11 : 3, c.state(3));
      Check.due("column", 0, c.state(2));
      c.row(row, row, true);
      Check.due("look of " + row, row < 8 ? row + 8 : 8, c.state(3));
      Check.due("column of " + row, row < 8 ? 0 : 4 * (row - 8), c.state(2));
    }
    Caption c = new Caption(0);
    c.paint();
    c.row(5, 12, true);
    Check.due("16 with bit 32 is a code", 0, c.code(16, 96));
    Check.due("but does nothing", 5, c.state(1));
    Check.due("column neither", 16, c.state(2));
    c.code(16, 127);
    Check.due("nor 127", 5, c.state(1));
    c.code(16, 95);
    Check.due("16 without it", 11, c.state(1));
    Check.due("column 28", 28, c.state(2));
  }

  private static void rowCodesByMode() {
    Caption c = new Caption(0);
    Check.due("by no mode", 0, c.row(7, 12, true));
    Check.due("row", 1, c.state(1));
    Check.due("column", 0, c.state(2));
    Check.due("look", 0, c.state(3));
    c.text();
    c.row(7, 12, true);
    Check.due("row by TEXT", 1, c.state(1));
    c.pop();
    c.row(7, 12, true);
    Check.due("row by POP", 7, c.state(1));
    c.letters("A");
    Check.due("a letter there", 65, c.hidden(7, 16));
    Check.due("its look", 8, c.desk.cell(0, 1, 7, 16, 1));
  }

  private static void looks() {
    Caption c = new Caption(0);
    c.paint();
    for (int y = 32; y < 48; y++) {
      c.code(17, y);
      int look = (y - 32) / 2 + (y % 2) * 8;
      Check.due("look " + y, look, c.state(3));
      Check.due("a space", 32, c.shown(1, y - 32));
      Check.due("with the look", look, c.desk.cell(0, 0, 1, y - 32, 1));
    }
    c.letters("A");
    Check.due("the look of a letter", 15, c.desk.cell(0, 0, 1, 16, 1));
    c.text();
    c.code(17, 36);
    Check.due("a look by TEXT", 2, c.state(3));
    Check.due("nothing put", 17, c.state(2));
    Caption n = new Caption(0);
    n.code(17, 37);
    Check.due("a look by no mode", 10, n.state(3));
    Check.due("no column", 0, n.state(2));
  }

  private static void specialLetters() {
    Caption c = new Caption(0);
    c.paint();
    for (int y = 48; y < 64; y++) {
      c.code(17, y);
      Check.due("special", 256 + y - 48, c.shown(1, y - 48));
    }
    c.row(2, 0, false);
    c.code(18, 33);
    Check.due("at column 0", 273, c.shown(2, 0));
    Check.due("column 1", 1, c.state(2));
    c.letters("ab");
    c.code(18, 63);
    Check.due("in place of b", 303, c.shown(2, 2));
    Check.due("a stays", 'a', c.shown(2, 1));
    Check.due("column 3", 3, c.state(2));
    c.code(19, 32);
    Check.due("304", 304, c.shown(2, 2));
    c.code(19, 63);
    Check.due("335", 335, c.shown(2, 2));
    c.text();
    c.code(19, 63);
    Check.due("by TEXT the column is one less", 2, c.state(2));
    Check.due("nothing put", 335, c.shown(2, 2));
  }

  private static void eraseBack() {
    Caption c = new Caption(0);
    c.paint();
    c.code(17, 35);
    c.letters("AB");
    c.code(20, 33);
    Check.due("column", 2, c.state(2));
    Check.due("cell", 0, c.shown(1, 2));
    Check.due("its look", 0, c.desk.cell(0, 0, 1, 2, 1));
    Check.due("the one before", 65, c.shown(1, 1));
    c.text();
    c.code(20, 33);
    Check.due("not by TEXT", 2, c.state(2));
    c.paint();
    c.row(1, 0, false);
    c.code(20, 33);
    Check.due("not at 0", 0, c.state(2));
    Check.due("the cell stays", 32, c.shown(1, 0));
    c.row(1, 15, false);
    c.letters("wxyz");
    c.code(20, 33);
    Check.due("from 32 to 31", 31, c.state(2));
    Check.due("31 is empty", 0, c.shown(1, 31));
    Check.due("30 is not", 'y', c.shown(1, 30));
    c.row(2, 0, false);
    c.letters("k");
    c.code(20, 33);
    Check.due("from 1 to 0", 0, c.state(2));
    Check.due("0 is empty", 0, c.shown(2, 0));
    c.row(1, 15, false);
    c.code(23, 35);
    c.pop();
    c.letters("h");
    c.code(21, 33);
    Check.due("by POP the hidden one", 0, c.hidden(1, 31));
    c.code(20, 33);
    Check.due("shown stays", 'y', c.shown(1, 30));
  }

  private static void eraseOn() {
    Caption c = new Caption(0);
    c.paint();
    c.row(3, 0, false);
    c.letters("above!");
    c.row(4, 0, false);
    c.letters("abcdefghij");
    c.row(4, 8, false);
    c.code(20, 36);
    Check.isTrue("not at column 0", c.rowText(0, 4).equals("abcdefghij"));
    c.row(5, 0, false);
    c.letters("below");
    c.row(4, 9, true);
    c.code(20, 36);
    Check.isTrue("from the column on", c.rowText(0, 4).equals("abcd"));
    Check.isTrue("no other row", c.rowText(0, 3).equals("above!") && c.rowText(0, 5).equals("below"));
    Check.due("the column stays", 4, c.state(2));
    Check.due("the look stays", 8, c.state(3));
    c.row(3, 9, false);
    c.text();
    c.code(20, 36);
    Check.isTrue("not by TEXT", c.rowText(0, 3).equals("above!"));
    c.pop();
    c.code(20, 36);
    Check.isTrue("by POP the hidden one", c.rowText(0, 3).equals("above!"));
    c.paint();
    c.row(3, 15, false);
    c.letters("wxyz");
    c.code(20, 36);
    Check.due("nothing is behind 32", 'z', c.shown(3, 31));
    c.row(5, 0, false);
    c.code(23, 33);
    c.code(20, 36);
    Check.isTrue("from column 1", c.rowText(0, 5).equals("b"));
  }

  private static void rollBegins() {
    Caption c = new Caption(0);
    c.pop();
    c.letters("hid");
    c.paint();
    c.letters("shown");
    c.row(5, 3, true);
    c.roll(4);
    Check.due("row 15", 15, c.state(1));
    Check.due("column 0", 0, c.state(2));
    Check.due("look 0", 0, c.state(3));
    Check.due("depth 4", 4, c.state(4));
    Check.isTrue("shown empty", c.rowText(0, 1).isEmpty());
    Check.isTrue("hidden empty", c.rowText(1, 1).isEmpty());
    c.pop();
    c.roll(3);
    Check.due("depth 3", 3, c.state(4));
    c.paint();
    Check.due("the depth stays", 3, c.state(4));
  }

  private static void rollAgain() {
    Caption c = new Caption(0);
    c.roll(4);
    for (String s : new String[] {"a", "b", "c", "d"}) {
      c.code(20, 45);
      c.letters(s);
    }
    c.row(15, 2, true);
    c.letters("xx");
    c.roll(2);
    Check.isTrue("12 empty", c.rowText(0, 12).isEmpty());
    Check.isTrue("13 empty", c.rowText(0, 13).isEmpty());
    Check.isTrue("14 stays", c.rowText(0, 14).equals("c"));
    Check.isTrue("15 stays", c.rowText(0, 15).equals("xx"));
    Check.due("column", 0, c.state(2));
    Check.due("look", 0, c.state(3));
    c.row(2, 0, false);
    Check.isTrue("moved", c.rowText(0, 1).equals("c") && c.rowText(0, 2).equals("xx"));
    c.roll(4);
    Check.due("the row is 4 at least", 4, c.state(1));
    Check.isTrue("rows stay there", c.rowText(0, 1).equals("c") && c.rowText(0, 2).equals("xx"));
    Check.isTrue("nothing comes", c.rowText(0, 3).isEmpty() && c.rowText(0, 4).isEmpty());
    c.roll(3);
    Check.isTrue("row 1 is above three rows that end at 4", c.rowText(0, 1).isEmpty());
    Check.isTrue("row 2 is one of them", c.rowText(0, 2).equals("xx"));
  }

  private static void rollUp() {
    Caption c = new Caption(0);
    c.paint();
    c.letters("top");
    c.code(20, 45);
    Check.due("not by PAINT", 3, c.state(2));
    c.roll(3);
    c.letters("one");
    c.code(20, 45);
    c.code(17, 35);
    c.letters("two");
    c.code(20, 45);
    Check.due("column", 0, c.state(2));
    Check.due("look", 0, c.state(3));
    Check.due("row", 15, c.state(1));
    c.letters("three");
    Check.isTrue("13", c.rowText(0, 13).equals("one"));
    Check.isTrue("14", c.rowText(0, 14).equals(" two"));
    Check.due("looks roll too", 9, c.desk.cell(0, 0, 14, 1, 1));
    c.code(20, 45);
    Check.isTrue("12 takes nothing", c.rowText(0, 12).isEmpty());
    Check.isTrue("13 is two", c.rowText(0, 13).equals(" two"));
    Check.isTrue("15 is empty", c.rowText(0, 15).isEmpty());
    Check.due("no look left", 0, c.desk.cell(0, 0, 15, 1, 1));
  }

  private static void rolledRowsMove() {
    for (int depth = 2; depth <= 4; depth++) {
      for (int to = 1; to <= 15; to++) {
        moveOnce(depth, 15, to);
        moveOnce(depth, 6, to);
      }
    }
  }

  private static void moveOnce(int depth, int from, int to) {
    Caption c = new Caption(0);
    c.roll(depth);
    c.letters("A");
    for (int i = 1; i < depth; i++) {
      c.code(20, 45);
      c.letters("" + (char) ('A' + i));
    }
    c.row(from, 0, false);
    c.row(to, 5, true);
    int end = Math.max(to, depth);
    Check.due("row", end, c.state(1));
    for (int r = 1; r <= 15; r++) {
      int i = r - (end - depth + 1);
      String want = i >= 0 && i < depth ? "" + (char) ('A' + i) : "";
      Check.isTrue("depth " + depth + " from " + from + " to " + to + " row " + r, c.rowText(0, r).equals(want));
    }
  }

  private static void screens() {
    Caption c = new Caption(0);
    c.code(20, 47);
    Check.due("15 is POP", 1, c.state(0));
    c.letters("A");
    c.text();
    c.code(20, 47);
    Check.due("from TEXT too", 1, c.state(0));
    Check.due("they change places", 65, c.shown(1, 0));
    Check.due("hidden is empty", 0, c.hidden(1, 0));
    c.letters("B");
    Check.due("hidden B", 66, c.hidden(1, 1));
    c.code(20, 44);
    Check.due("12 empties shown", 0, c.shown(1, 0));
    Check.due("not hidden", 66, c.hidden(1, 1));
    Check.due("no other change", 2, c.state(2));
    c.code(20, 47);
    c.code(20, 46);
    Check.due("14 leaves shown", 66, c.shown(1, 1));
    c.letters("C");
    c.code(21, 46);
    Check.due("14 empties hidden", 0, c.hidden(1, 2));
    c.code2(20, 44);
    Check.due("of its channel alone", 66, c.shown(1, 1));
  }
}
