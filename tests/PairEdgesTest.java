/**
 * How pairs are read (promises 1 to 5, and the first half of 1 PAIRS), sentence by sentence: each
 * boundary itself and both its sides. The sentence stands above its test.
 */
public final class PairEdgesTest {
  private static final int NONE = -1;
  private static final int PASSED = 8;
  private static final int LETTERS = 9;
  private static final int[] FAR_BITS = {0x100, 0x7FFFFF00, 0x80000000, -256};

  public static void main(String[] args) {
    everyFirstByte();
    everySecondByteOfLetters();
    everySecondByteOfCode();
    everySecondByteOfZero();
    everyFirstSign();
    lowestEightBits();
    fields();
    channelsApart();
    channelFromThenOn();
    channelStays();
    passedCodes();
    passedIsNothing();
    sameBothSigns();
    justBefore();
    fieldsApartWhenPassed();
    refusedPairIsNoPair();
    lettersWithoutChannel();
    newChannels();
    cellIndexes();
    stateIndexes();
    channelIndexes();
    call512();
    Check.end("PairEdgesTest");
  }

  /** By counting, bit for bit. */
  private static boolean isRight(int b) {
    int ones = 0;
    for (int i = 0; i < 8; i++) {
      ones += b >> i & 1;
    }
    return ones == 1 || ones == 3 || ones == 5 || ones == 7;
  }

  private static Caption painting() {
    Caption c = new Caption(0);
    c.paint();
    c.pad();
    return c;
  }

  /**
   * "A byte is RIGHT if it has an odd number of bits that are 1; its SIGN is its lowest seven bits."
   * "If the first one is not RIGHT, the pair is nothing."
   */
  private static void everyFirstByte() {
    for (int b = 0; b < 256; b++) {
      Caption c = painting();
      boolean isLetter = isRight(b) && (b & 127) >= 32;
      Check.due("first byte " + b, isLetter ? LETTERS : NONE, c.desk.pair(0, b, Caption.right(0)));
      Check.due("its letter, " + b, isLetter ? b & 127 : 0, c.shown(1, 0));
      Check.due("column behind " + b, isLetter ? 1 : 0, c.state(2));
      Caption d = painting();
      int code = isRight(b) && (b & 127) >= 16 && (b & 127) < 32 ? (b & 8) / 8 : NONE;
      int want = isLetter || b == 128 ? LETTERS : code;
      Check.due("first byte " + b + " before 32", want, d.desk.pair(0, b, Caption.right(32)));
    }
  }

  /** "then the second one: not RIGHT: 127; 32 .. 127: that; else nothing." */
  private static void everySecondByteOfLetters() {
    for (int b = 0; b < 256; b++) {
      Caption c = painting();
      Check.due("letters, second " + b, LETTERS, c.desk.pair(0, Caption.right('A'), b));
      Check.due("the first one before " + b, 'A', c.shown(1, 0));
      int want = !isRight(b) ? 127 : (b & 127) >= 32 ? b & 127 : 0;
      Check.due("the second one, " + b, want, c.shown(1, 1));
      Check.due("column behind second " + b, want == 0 ? 1 : 2, c.state(2));
    }
  }

  /** "a CODE (nothing, if the second is not RIGHT, or its SIGN below 32)" */
  private static void everySecondByteOfCode() {
    for (int b = 0; b < 256; b++) {
      boolean isCode = isRight(b) && (b & 127) >= 32;
      CaptionDesk d = new CaptionDesk();
      Check.due("code, second " + b, isCode ? 0 : NONE, d.pair(0, Caption.right(20), b));
      Check.due("the channel behind second " + b, isCode ? 0 : NONE, d.channel(0));
    }
  }

  /** "but 0: the second comes as a letter, if it is RIGHT, and 32 .. 127." */
  private static void everySecondByteOfZero() {
    for (int b = 0; b < 256; b++) {
      boolean comes = isRight(b) && (b & 127) >= 32;
      Caption c = painting();
      Check.due("zero, second " + b, comes ? LETTERS : NONE, c.desk.pair(0, 128, b));
      Check.due("letter of zero and " + b, comes ? b & 127 : 0, c.shown(1, 0));
      Check.due("column of zero and " + b, comes ? 1 : 0, c.state(2));
    }
  }

  /**
   * "By the first SIGN: 16 .. 31: a CODE", "of the channel 2 f, or 2 f + 1 if the first SIGN has
   * bit 8", "32 .. 127: the first SIGN comes as a letter", "0 .. 15: nothing, but 0".
   */
  private static void everyFirstSign() {
    for (int sign = 0; sign < 128; sign++) {
      for (int field = 0; field < 2; field++) {
        Caption c = new Caption(field);
        c.paint();
        int want = sign >= 32 || sign == 0 ? LETTERS : sign < 16 ? NONE : 2 * field + (sign < 24 ? 0 : 1);
        Check.due("first sign " + sign, want, c.desk.pair(field, Caption.right(sign), Caption.right(127)));
        int column = sign >= 32 ? 2 : sign == 0 ? 1 : 0;
        if (sign < 16 || sign >= 24) {
          Check.due("column behind sign " + sign, column, c.state(2));
        }
      }
    }
  }

  /** "A pair of bytes (their lowest eight bits) comes in a field" */
  private static void lowestEightBits() {
    for (int far : FAR_BITS) {
      Caption c = new Caption(0);
      Check.due("a code with far bits", 0, c.desk.pair(0, Caption.right(20) | far, Caption.right(41) | far));
      Check.due("its MODE", 3, c.state(0));
      Check.due("the same without them", PASSED, c.desk.pair(0, Caption.right(20), Caption.right(41)));
      Check.due("letters with far bits", LETTERS, c.desk.pair(0, Caption.right('A') | far, Caption.right('b') | far));
      c.rowIs("letters with far bits", 0, 1, "Ab");
      Check.due("not RIGHT with far bits", NONE, c.desk.pair(0, Caption.bad('A') | far, Caption.right('b')));
    }
  }

  /** "There are FIELDS 0, 1"; "IndexOutOfBoundsException: the field." */
  private static void fields() {
    CaptionDesk d = new CaptionDesk();
    Check.indexes("pair's field", 0, 1, f -> d.pair(f, Caption.right(20), Caption.right(32)));
    Check.indexes("a field of nothing", 0, 1, f -> d.pair(f, 0, 0));
    Check.due("field 0 came", 0, d.channel(0));
    Check.due("field 1 came", 2, d.channel(1));
  }

  /** "CHANNELS 0 .. 3: of field f 2 f and 2 f + 1." */
  private static void channelsApart() {
    for (int channel = 0; channel < 4; channel++) {
      CaptionDesk d = new CaptionDesk();
      int field = channel / 2;
      Check.due("code's channel", channel, d.pair(field, Caption.right(20 + channel % 2 * 8), Caption.right(41)));
      d.pair(field, Caption.right('A'), Caption.right('B'));
      for (int other = 0; other < 4; other++) {
        boolean its = other == channel;
        Check.due("MODE of " + other, its ? 3 : 0, d.state(other, 0));
        Check.due("column of " + other, its ? 2 : 0, d.state(other, 2));
        Check.due("letter of " + other, its ? 'A' : 0, d.cell(other, 0, 1, 0, 0));
        Check.due("hidden letter of " + other, 0, d.cell(other, 1, 1, 0, 0));
      }
      Check.due("the field's CHANNEL", channel, d.channel(field));
      Check.due("the other field has none", NONE, d.channel(1 - field));
    }
  }

  /** "that is the field's CHANNEL from then on." */
  private static void channelFromThenOn() {
    Caption c = new Caption(0);
    Check.due("none at first", NONE, c.desk.channel(0));
    c.paint();
    Check.due("0", 0, c.desk.channel(0));
    c.code2(20, 41);
    Check.due("1", 1, c.desk.channel(0));
    c.letters("AB");
    Check.due("letters to 1", 'A', c.desk.cell(1, 0, 1, 0, 0));
    Check.due("not to 0", 0, c.desk.cell(0, 0, 1, 0, 0));
    c.code(22, 63);
    Check.due("0 by a code that does nothing", 0, c.desk.channel(0));
    c.letters("C");
    Check.due("letters to 0", 'C', c.desk.cell(0, 0, 1, 0, 0));
    Check.due("1 has two", 2, c.desk.state(1, 2));
  }

  /** A pair of nothing is no CODE: the CHANNEL stays, at both sides of what makes a code. */
  private static void channelStays() {
    CaptionDesk d = new CaptionDesk();
    d.pair(0, Caption.right(20), Caption.right(41));
    int[][] nothing = {{Caption.bad(28), Caption.right(41)}, {Caption.right(28), Caption.bad(41)},
      {Caption.right(28), Caption.right(31)}, {Caption.right(15), Caption.right(41)},
      {Caption.right(8), Caption.right(41)}};
    for (int[] pair : nothing) {
      Check.due("nothing", NONE, d.pair(0, pair[0], pair[1]));
      Check.due("the CHANNEL stays", 0, d.channel(0));
    }
    Check.due("letters with bit 8", LETTERS, d.pair(0, Caption.right(40), Caption.right(41)));
    Check.due("the CHANNEL stays by letters", 0, d.channel(0));
    Check.due("32 is the least second sign", 1, d.pair(0, Caption.right(28), Caption.right(32)));
    Check.due("the CHANNEL is 1", 1, d.channel(0));
    d.pair(0, Caption.right(31), Caption.right(127));
    Check.due("a passed one", PASSED, d.pair(0, Caption.right(31), Caption.right(127)));
    Check.due("the CHANNEL is 1 still", 1, d.channel(0));
  }

  /** "is PASSED (nothing, but the next same one is not)." */
  private static void passedCodes() {
    for (int field = 0; field < 2; field++) {
      for (int bit = 0; bit <= 8; bit += 8) {
        CaptionDesk d = new CaptionDesk();
        for (int i = 0; i < 7; i++) {
          int want = i % 2 == 1 ? PASSED : 2 * field + bit / 8;
          Check.due("same code " + i, want, d.pair(field, Caption.right(17 + bit), Caption.right(50)));
        }
      }
    }
  }

  private static void passedIsNothing() {
    Caption c = painting();
    for (int i = 0; i < 4; i++) {
      c.desk.pair(0, Caption.right(17), Caption.right(48));
      Check.due("column behind special " + i, i / 2 + 1, c.state(2));
    }
    Caption none = new Caption(0);
    for (int i = 0; i < 3; i++) {
      none.desk.pair(0, Caption.right(22), Caption.right(32));
    }
    Check.due("a code without meaning is passed too", PASSED,
        none.desk.pair(0, Caption.right(22), Caption.right(32)));
  }

  /** "A CODE that is the same (both SIGNS) as the pair just before it" */
  private static void sameBothSigns() {
    CaptionDesk d = new CaptionDesk();
    Check.due("a code", 0, d.pair(0, Caption.right(20), Caption.right(34)));
    Check.due("another second", 0, d.pair(0, Caption.right(20), Caption.right(35)));
    Check.due("another first", 0, d.pair(0, Caption.right(21), Caption.right(35)));
    Check.due("another channel", 1, d.pair(0, Caption.right(29), Caption.right(35)));
    Check.due("back", 0, d.pair(0, Caption.right(21), Caption.right(35)));
    Check.due("the same", PASSED, d.pair(0, Caption.right(21), Caption.right(35)));
    Check.due("another behind a passed one", 0, d.pair(0, Caption.right(21), Caption.right(34)));
    Check.due("and the same", PASSED, d.pair(0, Caption.right(21), Caption.right(34)));
    for (int x = 16; x < 32; x++) {
      isPassedBehindItselfAlone(x, 34);
    }
    for (int y = 32; y < 128; y++) {
      isPassedBehindItselfAlone(22, y);
    }
  }

  /** Every code that has another first sign, or another second one, is another code. */
  private static void isPassedBehindItselfAlone(int x, int y) {
    CaptionDesk d = new CaptionDesk();
    int channel = x < 24 ? 0 : 1;
    for (int first = 16; first < 32; first++) {
      d.pair(0, Caption.right(first), Caption.right(y));
      Check.due(x + " behind " + first, first == x ? PASSED : channel, d.pair(0, Caption.right(x), Caption.right(y)));
      d.pair(0, 128, 128);
    }
    for (int second = 32; second < 128; second++) {
      d.pair(0, Caption.right(x), Caption.right(second));
      Check.due(y + " behind " + second, second == y ? PASSED : channel, d.pair(0, Caption.right(x), Caption.right(y)));
      d.pair(0, 128, 128);
    }
  }

  /** "the pair just before it in that field, which was a CODE": any pair between them counts. */
  private static void justBefore() {
    int first = Caption.right(20);
    int second = Caption.right(34);
    int[][] between = {{Caption.bad(20), second}, {first, Caption.bad(34)}, {first, Caption.right(31)},
      {128, 128}, {0, 0}, {Caption.right(1), second}, {Caption.right(15), second},
      {Caption.right('A'), Caption.right('B')}, {128, Caption.right('A')}, {first, Caption.right(35)}};
    for (int[] pair : between) {
      CaptionDesk d = new CaptionDesk();
      d.pair(0, first, second);
      d.pair(0, pair[0], pair[1]);
      Check.due("behind " + pair[0] + ", " + pair[1], 0, d.pair(0, first, second));
      Check.due("the next", PASSED, d.pair(0, first, second));
      d.pair(0, pair[0], pair[1]);
      Check.due("behind a passed one and a pair", 0, d.pair(0, first, second));
    }
    CaptionDesk e = new CaptionDesk();
    e.pair(0, first, Caption.bad(34));
    Check.due("a spoilt one is no CODE", 0, e.pair(0, first, second));
  }

  /** "in that field" */
  private static void fieldsApartWhenPassed() {
    CaptionDesk d = new CaptionDesk();
    int first = Caption.right(20);
    int second = Caption.right(34);
    Check.due("field 0", 0, d.pair(0, first, second));
    Check.due("field 1", 2, d.pair(1, first, second));
    d.pair(1, Caption.right('A'), Caption.right('B'));
    Check.due("field 0 again", PASSED, d.pair(0, first, second));
    Check.due("field 1 again", 2, d.pair(1, first, second));
    Check.due("field 1 once more", PASSED, d.pair(1, first, second));
    Check.due("field 0 once more", 0, d.pair(0, first, second));
  }

  /** A refused call changes nothing, nor does it stand between two pairs. */
  private static void refusedPairIsNoPair() {
    Caption c = painting();
    c.desk.pair(0, Caption.right(17), Caption.right(48));
    for (int field : new int[] {-1, 2}) {
      Check.outside("a wrong field", () -> c.desk.pair(field, Caption.right('A'), Caption.right('B')));
      Check.outside("a wrong field's code", () -> c.desk.pair(field, Caption.right(28), Caption.right(32)));
    }
    Check.outside("a wrong cell", () -> c.desk.cell(0, 0, 0, 0, 0));
    Check.due("the same as the pair before", PASSED, c.desk.pair(0, Caption.right(17), Caption.right(48)));
    c.stateIs("nothing came", 3, 1, 1, 0, 2);
    Check.due("the CHANNEL stays", 0, c.desk.channel(0));
    Check.due("field 1 has none", NONE, c.desk.channel(1));
  }

  /** "to the field's CHANNEL (none at first: nothing)" */
  private static void lettersWithoutChannel() {
    Caption c = new Caption(0);
    Check.due("letters", NONE, c.letters("AB"));
    Check.due("zero and a letter", NONE, c.desk.pair(0, 128, Caption.right('A')));
    c.paint();
    Check.due("none of them came", 0, c.state(2));
    Check.due("letters now", LETTERS, c.letters("A"));
    Check.due("field 1 has no CHANNEL yet", NONE, c.desk.pair(1, Caption.right('A'), Caption.right('B')));
    c.text();
    Check.due("by TEXT they come to the channel", LETTERS, c.letters("A"));
    Check.due("zero by TEXT", LETTERS, c.desk.pair(0, 128, Caption.right('A')));
  }

  /** "MODE (0 none at first", "row 1 at first", "(0 at first)", "DEPTH (2 .. 4; 2 at first)" */
  private static void newChannels() {
    CaptionDesk d = new CaptionDesk();
    int[] first = {0, 1, 0, 0, 2};
    for (int channel = 0; channel < 4; channel++) {
      for (int what = 0; what < 5; what++) {
        Check.due("new state " + what, first[what], d.state(channel, what));
      }
      for (int i = 0; i < 8; i++) {
        Check.due("new corner", 0, d.cell(channel, i % 2, i / 2 % 2 == 0 ? 1 : 15, i / 4 == 0 ? 0 : 31, i % 2));
      }
    }
    Check.due("no CHANNEL of field 0", NONE, d.channel(0));
    Check.due("no CHANNEL of field 1", NONE, d.channel(1));
    Check.due("NONE", -1, CaptionDesk.NONE);
  }

  /** "screen 0 SHOWN, 1 HIDDEN; its letter (what = 0), its look (1). IndexOutOfBoundsException: any" */
  private static void cellIndexes() {
    Caption c = new Caption(1);
    c.code2(20, 41);
    c.code2(20, 127);
    c.desk.pair(1, Caption.right(31), Caption.right(35));
    c.desk.pair(1, Caption.right('A'), Caption.right(0));
    CaptionDesk d = c.desk;
    Check.indexes("cell's channel", 0, 3, i -> d.cell(i, 0, 1, 0, 0));
    Check.indexes("cell's screen", 0, 1, i -> d.cell(3, i, 15, 31, 1));
    Check.indexes("cell's row", 1, 15, i -> d.cell(3, 0, i, 31, 0));
    Check.indexes("cell's column", 0, 31, i -> d.cell(3, 0, 15, i, 0));
    Check.indexes("cell's what", 0, 1, i -> d.cell(3, 0, 15, 31, i));
    Check.due("the last letter", 'A', d.cell(3, 0, 15, 31, 0));
    Check.due("the last look", 8, d.cell(3, 0, 15, 31, 1));
    Check.due("not hidden", 0, d.cell(3, 1, 15, 31, 0));
    Check.outside("column 32, though the place has it", () -> d.cell(3, 0, 15, 32, 0));
    Check.due("the column of the place", 32, d.state(3, 2));
  }

  private static void stateIndexes() {
    CaptionDesk d = new CaptionDesk();
    Check.indexes("state's channel", 0, 3, i -> d.state(i, 4));
    Check.indexes("state's what", 0, 4, i -> d.state(3, i));
  }

  private static void channelIndexes() {
    CaptionDesk d = new CaptionDesk();
    Check.indexes("channel's field", 0, 1, d::channel);
  }

  /** "An object is used for at most 512 calls after it has been made" */
  private static void call512() {
    Caption c = new Caption(0);
    c.desk.pair(0, Caption.right(20), Caption.right(41));
    for (int i = 2; i < 511; i++) {
      int b = Caption.right(33 + i % 90);
      Check.due("call " + i, LETTERS, c.desk.pair(0, b, Caption.right(0)));
    }
    Check.due("call 511", 33 + 510 % 90, c.shown(1, 31));
    Check.due("call 512", 32, c.state(2));
  }
}
