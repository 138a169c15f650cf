/**
 * What is WATCHED, ticks, cues and lines (promises 16 to 20, and 3 CUES), sentence by sentence: each
 * boundary itself and both its sides. The sentence stands above its test.
 */
public final class CueEdgesTest {
  private static final int NONE = -1;
  private static final Class<IllegalArgumentException> REFUSED = IllegalArgumentException.class;

  public static void main(String[] args) {
    newTime();
    tickLengths();
    refusedTick();
    longestTime();
    sources();
    shownScreensAlone();
    emptyRows();
    leastLetter();
    betweenLetters();
    firstToLast();
    lowestEightBits();
    rowsOfScreen();
    rowsOfPage();
    lettersOfPage();
    watchNumbers();
    refusedWatch();
    watchedName();
    closedBefore();
    asItWasThen();
    closedLatest();
    watchedAnew();
    limitOfLines();
    behindTheLimit();
    cueBegins();
    cueGoesOn();
    cueEnds();
    cueEndsAndBegins();
    sameLinesElsewhere();
    fewerThan60();
    sourcesAt60();
    roomIsNotMade();
    cueIndexes();
    lineIndexes();
    Check.end("CueEdgesTest");
  }

  private static Caption painting() {
    Caption c = new Caption(0);
    c.paint();
    return c;
  }

  private static void cueIs(CaptionDesk d, int i, int source, int begin, int end, String lines) {
    Check.due("source of cue " + i, source, d.cue(i, 0));
    Check.due("begin of cue " + i, begin, d.cue(i, 1));
    Check.due("end of cue " + i, end, d.cue(i, 2));
    Check.due("bytes of cue " + i, lines.length(), d.cue(i, 3));
    for (int k = 0; k < Math.min(lines.length(), d.cue(i, 3)); k++) {
      Check.due("byte " + k + " of cue " + i, lines.charAt(k), d.line(i, k));
    }
  }

  /** One tick of a screen with this row. */
  private static CaptionDesk shownOnce(String text) {
    Caption c = painting();
    c.letters(text);
    c.desk.tick(1);
    return c.desk;
  }

  private static CaptionDesk watching(int magazine, int number) {
    CaptionDesk d = new CaptionDesk();
    d.watch(magazine, number);
    Packets.send(d, Packets.header(magazine, number, 0));
    return d;
  }

  private static void close(CaptionDesk d, int magazine) {
    Packets.send(d, Packets.header(magazine, 255, 0));
  }

  /** "nothing WATCHED, time 0, no cues." */
  private static void newTime() {
    CaptionDesk d = new CaptionDesk();
    Check.due("no cues", 0, d.cues());
    Check.outside("no cue 0", () -> d.cue(0, 0));
    Packets.send(d, Packets.header(8, 0, 0));
    Packets.send(d, Packets.text(8, 1, "x"));
    close(d, 8);
    Check.due("time 0 and 1", 1, d.tick(1));
    Check.due("nothing is WATCHED", 0, d.cues());
  }

  /** "A TICK of n (1 .. 100000): the time. IllegalArgumentException." */
  private static void tickLengths() {
    CaptionDesk d = new CaptionDesk();
    Check.range("tick", 1, 100000, REFUSED, d::tick);
    Check.due("both ends came", 100003, d.tick(2));
    Check.due("one less than the longest", 200002, d.tick(99999));
  }

  private static void refusedTick() {
    Caption c = painting();
    c.letters("A");
    for (int n : new int[] {0, 100001}) {
      Check.throwing("tick " + n, REFUSED, () -> c.desk.tick(n));
    }
    Check.due("no cue begins", 0, c.desk.cues());
    Check.due("the time stayed", 1, c.desk.tick(1));
    c.code(20, 44);
    Check.throwing("tick -1", REFUSED, () -> c.desk.tick(-1));
    cueIs(c.desk, 0, 0, 1, NONE, "A\n");
  }

  private static void longestTime() {
    Caption c = painting();
    for (int i = 1; i <= 500; i++) {
      Check.due("time " + i, 100000 * i, c.desk.tick(100000));
    }
    c.letters("A");
    c.desk.tick(100000);
    Check.due("a late cue", 50100000, c.desk.cue(0, 1));
  }

  /** "SOURCES: 0 .. 3 the channels' SHOWN screens, 4 the page that is WATCHED"; "for each source, in order" */
  private static void sources() {
    for (int source = 0; source < 4; source++) {
      CaptionDesk d = new CaptionDesk();
      d.pair(source / 2, Caption.right(20 + source % 2 * 8), Caption.right(41));
      d.pair(source / 2, Caption.right('A'), Caption.right(0));
      d.tick(7);
      cueIs(d, 0, source, 7, NONE, "A\n");
      Check.due("one", 1, d.cues());
    }
    CaptionDesk all = watching(8, 254);
    Packets.send(all, Packets.text(8, 1, "E"));
    close(all, 8);
    for (int source = 3; source >= 0; source--) {
      all.pair(source / 2, Caption.right(20 + source % 2 * 8), Caption.right(41));
      all.pair(source / 2, Caption.right('A' + source), Caption.right(0));
    }
    all.tick(1);
    Check.due("five", 5, all.cues());
    for (int source = 0; source < 5; source++) {
      cueIs(all, source, source, 1, NONE, (char) ('A' + source) + "\n");
    }
  }

  private static void shownScreensAlone() {
    Caption c = new Caption(0);
    c.pop();
    c.letters("A");
    c.desk.tick(1);
    Check.due("HIDDEN is no source", 0, c.desk.cues());
    c.code(20, 47);
    Check.due("none before a TICK", 0, c.desk.cues());
    c.desk.tick(1);
    cueIs(c.desk, 0, 0, 2, NONE, "A\n");
    c.code(20, 47);
    Check.due("no end before a TICK", NONE, c.desk.cue(0, 2));
    c.desk.tick(1);
    Check.due("the end", 3, c.desk.cue(0, 2));
  }

  /** "of each row", "that is not empty of letters but 32 and below" */
  private static void emptyRows() {
    Check.due("an empty screen", 0, shownOnce("").cues());
    Check.due("one space", 0, shownOnce(" ").cues());
    Check.due("a row of spaces", 0, shownOnce(" ".repeat(32)).cues());
    Caption c = painting();
    for (int row = 1; row <= 15; row++) {
      c.goTo(row, 0);
      c.letters(row % 7 == 0 ? "x" : " ");
    }
    c.desk.tick(1);
    cueIs(c.desk, 0, 0, 1, NONE, "x\nx\n");
  }

  private static void leastLetter() {
    cueIs(shownOnce("!"), 0, 0, 1, NONE, "!\n");
    cueIs(shownOnce("\u007F"), 0, 0, 1, NONE, "\u007F\n");
    for (int sign = 0; sign < 128; sign++) {
      CaptionDesk d = watching(1, 1);
      Packets.send(d, Packets.text(1, 1, "" + (char) sign));
      close(d, 1);
      d.tick(1);
      Check.due("a cue by sign " + sign, sign > 32 ? 1 : 0, d.cues());
    }
  }

  /** "empty cells (and letters below 32) being 32" */
  private static void betweenLetters() {
    Caption c = painting();
    c.letters("a");
    c.goTo(1, 2);
    c.letters("b ");
    c.goTo(1, 6);
    c.letters("c");
    c.desk.tick(1);
    cueIs(c.desk, 0, 0, 1, NONE, "a b   c\n");
    for (int sign = 0; sign < 128; sign++) {
      CaptionDesk d = watching(1, 1);
      Packets.send(d, Packets.text(1, 1, "a" + (char) sign + "b"));
      close(d, 1);
      d.tick(1);
      Check.due("sign " + sign + " between", Math.max(sign, 32), d.line(0, 1));
      Check.due("length", 4, d.cue(0, 3));
    }
  }

  /** "its letters from the first to the last such"; "each line ends with 10" */
  private static void firstToLast() {
    for (int first : new int[] {0, 1, 30, 31}) {
      for (int last : new int[] {0, 1, 30, 31}) {
        if (first <= last) {
          Caption c = painting();
          c.letters(" ".repeat(32));
          c.goTo(1, first);
          c.letters("x");
          c.goTo(1, last);
          c.letters("y");
          c.desk.tick(1);
          String middle = last > first ? "x" + " ".repeat(last - first - 1) : "";
          cueIs(c.desk, 0, 0, 1, NONE, middle + "y\n");
        }
      }
    }
  }

  /** "a letter above 255 its lowest eight bits" */
  private static void lowestEightBits() {
    for (int letter = 256; letter < 336; letter++) {
      Caption c = painting();
      c.letters("a ");
      if (letter < 272) {
        c.code(20, 33);
        c.code(17, letter - 208);
      } else {
        c.code(letter < 304 ? 18 : 19, letter < 304 ? letter - 240 : letter - 272);
      }
      Check.due("the letter", letter, c.shown(1, 1));
      c.desk.tick(1);
      cueIs(c.desk, 0, 0, 1, NONE, "a" + (char) (letter - 256) + "\n");
    }
    Caption alone = painting();
    alone.code(17, 48);
    alone.desk.tick(1);
    cueIs(alone.desk, 0, 0, 1, NONE, "\0\n");
    Caption inner = painting();
    inner.code(17, 48);
    inner.letters(" ");
    inner.code(17, 58);
    inner.desk.tick(1);
    cueIs(inner.desk, 0, 0, 1, NONE, "\0 \n\n");
  }

  /** "(15 from the first" */
  private static void rowsOfScreen() {
    Caption c = painting();
    for (int row = 15; row >= 1; row--) {
      c.goTo(row, row * 2);
      c.letters("" + (char) ('A' + row));
    }
    c.desk.tick(1);
    cueIs(c.desk, 0, 0, 1, NONE, "B\nC\nD\nE\nF\nG\nH\nI\nJ\nK\nL\nM\nN\nO\nP\n");
  }

  /** "of a page rows 1 .. 24)" */
  private static void rowsOfPage() {
    CaptionDesk d = watching(1, 1);
    Packets.send(d, Packets.withText(Packets.header(1, 1, 0), 10, "HEADER"));
    close(d, 1);
    d.tick(1);
    Check.due("row 0 is none of them", 0, d.cues());
    Packets.send(d, Packets.withText(Packets.header(1, 1, 0), 10, "HEADER"));
    StringBuilder want = new StringBuilder();
    for (int row = 24; row >= 1; row--) {
      Packets.send(d, Packets.text(1, row, " " + (char) ('a' + row)));
      want.insert(0, (char) ('a' + row) + "\n");
    }
    close(d, 1);
    d.tick(1);
    cueIs(d, 0, 4, 2, NONE, want.toString());
  }

  private static void lettersOfPage() {
    CaptionDesk d = watching(1, 1);
    int[] bytes = Packets.blank(1, 24);
    bytes[2] = Caption.right('a');
    bytes[41] = Caption.right('z');
    Packets.send(d, bytes);
    close(d, 1);
    d.tick(1);
    cueIs(d, 0, 4, 1, NONE, "a" + " ".repeat(38) + "z\n");
  }

  /** "(MAGAZINE 1 .. 8, NUMBER 0 .. 254): 1." */
  private static void watchNumbers() {
    CaptionDesk d = new CaptionDesk();
    Check.range("watch's MAGAZINE", 1, 8, REFUSED, i -> d.watch(i, 0));
    Check.range("watch's NUMBER", 0, 254, REFUSED, i -> d.watch(1, i));
    for (int magazine : new int[] {1, 8}) {
      for (int number : new int[] {0, 254}) {
        CaptionDesk e = watching(magazine, number);
        Check.due("watch", 1, e.watch(magazine, number));
        Packets.send(e, Packets.text(magazine, 1, "x"));
        close(e, magazine);
        e.tick(1);
        cueIs(e, 0, 4, 1, NONE, "x\n");
      }
    }
  }

  /** A refused watch leaves what is WATCHED, and what of it was CLOSED. */
  private static void refusedWatch() {
    CaptionDesk d = watching(3, 9);
    Packets.send(d, Packets.text(3, 1, "x"));
    close(d, 3);
    int[][] wrong = {{0, 9}, {9, 9}, {3, -1}, {3, 255}, {-1, -1}};
    for (int[] w : wrong) {
      Check.throwing("watch " + w[0] + ", " + w[1], REFUSED, () -> d.watch(w[0], w[1]));
    }
    d.tick(1);
    cueIs(d, 0, 4, 1, NONE, "x\n");
    Packets.send(d, Packets.header(3, 9, 0));
    Packets.send(d, Packets.text(3, 1, "y"));
    close(d, 3);
    d.tick(1);
    cueIs(d, 1, 4, 2, NONE, "y\n");
  }

  /** "of a MAGAZINE and a NUMBER the page": of any SUBCODE, but of no other MAGAZINE or NUMBER. */
  private static void watchedName() {
    int[][] names = {{3, 9, 0}, {3, 9, 8191}, {4, 9, 0}, {2, 9, 0}, {3, 8, 0}, {3, 10, 0}};
    for (int i = 0; i < names.length; i++) {
      CaptionDesk d = new CaptionDesk();
      d.watch(3, 9);
      Packets.send(d, Packets.header(names[i][0], names[i][1], names[i][2]));
      Packets.send(d, Packets.text(names[i][0], 1, "x"));
      close(d, names[i][0]);
      d.tick(1);
      Check.due("page " + i, i < 2 ? 1 : 0, d.cues());
    }
  }

  /** "What of it was CLOSED before does not count."; "none before" */
  private static void closedBefore() {
    CaptionDesk d = new CaptionDesk();
    Packets.send(d, Packets.header(1, 1, 0));
    Packets.send(d, Packets.text(1, 1, "x"));
    close(d, 1);
    d.watch(1, 1);
    d.tick(1);
    Check.due("CLOSED before", 0, d.cues());
    Packets.send(d, Packets.header(1, 1, 0));
    d.tick(1);
    Check.due("OPEN, not CLOSED", 0, d.cues());
    close(d, 1);
    d.tick(1);
    cueIs(d, 0, 4, 3, NONE, "x\n");
  }

  /** "as it was then": neither its later rows nor ERASE nor its going from the STORE change it. */
  private static void asItWasThen() {
    CaptionDesk d = watching(1, 1);
    Packets.send(d, Packets.text(1, 1, "x"));
    Packets.send(d, Packets.header(1, 1, 0, 1));
    d.tick(1);
    cueIs(d, 0, 4, 1, NONE, "x\n");
    Packets.send(d, Packets.text(1, 1, "y"));
    d.tick(1);
    for (int i = 0; i < 20; i++) {
      Packets.send(d, Packets.header(2, i, 0));
    }
    Check.due("it is gone", NONE, d.find(1, 1, 0));
    d.tick(1);
    Check.due("the cue goes on", NONE, d.cue(0, 2));
    Check.due("one cue", 1, d.cues());
  }

  /** "the page that was CLOSED latest since they are WATCHED" */
  private static void closedLatest() {
    CaptionDesk d = watching(1, 1);
    Packets.send(d, Packets.text(1, 1, "a"));
    Packets.send(d, Packets.header(1, 1, 5));
    Packets.send(d, Packets.text(1, 1, "b"));
    Packets.send(d, Packets.header(1, 1, 0));
    d.tick(1);
    cueIs(d, 0, 4, 1, NONE, "b\n");
    Packets.send(d, Packets.header(1, 2, 0));
    d.tick(1);
    cueIs(d, 0, 4, 1, 2, "b\n");
    cueIs(d, 1, 4, 2, NONE, "a\n");
    Packets.send(d, Packets.header(1, 1, 7));
    close(d, 1);
    d.tick(1);
    Check.due("an empty page is the latest", 3, d.cue(1, 2));
    Check.due("and makes no cue", 2, d.cues());
  }

  /** "Another page is WATCHED" */
  private static void watchedAnew() {
    CaptionDesk d = watching(1, 1);
    Packets.send(d, Packets.text(1, 1, "a"));
    close(d, 1);
    d.tick(1);
    d.watch(1, 2);
    Check.due("no end before a TICK", NONE, d.cue(0, 2));
    d.tick(1);
    cueIs(d, 0, 4, 1, 2, "a\n");
    Packets.send(d, Packets.header(1, 1, 0));
    close(d, 1);
    d.tick(1);
    Check.due("the old one is not WATCHED", 1, d.cues());
    d.watch(1, 1);
    d.tick(1);
    Check.due("CLOSED before it is WATCHED again", 1, d.cues());
    Packets.send(d, Packets.header(1, 1, 0));
    close(d, 1);
    d.tick(1);
    cueIs(d, 1, 4, 5, NONE, "a\n");
    d.watch(1, 1);
    d.tick(1);
    Check.due("the same one is WATCHED anew", 6, d.cue(1, 2));
  }

  /** A page of nine full lines (369 bytes) and one of so many letters. */
  private static CaptionDesk closedPage(int letters, int tenthSign) {
    CaptionDesk d = watching(1, 1);
    for (int row = 1; row <= 9; row++) {
      Packets.send(d, Packets.rowOf(1, row, 'x'));
    }
    Packets.send(d, Packets.text(1, 10, ("" + (char) tenthSign).repeat(letters)));
    close(d, 1);
    d.tick(1);
    return d;
  }

  /** "of more than 400 bytes LINES are the first 400"; "how many bytes its LINES have (400 at most)" */
  private static void limitOfLines() {
    for (int letters = 28; letters <= 33; letters++) {
      CaptionDesk d = closedPage(letters, 'y');
      int length = Math.min(370 + letters, 400);
      Check.due("bytes with " + letters, length, d.cue(0, 3));
      Check.due("the last byte with " + letters, letters <= 30 ? 10 : 'y', d.line(0, length - 1));
      Check.due("the first byte of the tenth line", 'y', d.line(0, 369));
      Check.due("the end of the ninth", 10, d.line(0, 368));
      Check.indexes("line's k with " + letters, 0, length - 1, k -> d.line(0, k));
    }
  }

  /** What is behind the first 400 bytes makes no other LINES; byte 400 does. */
  private static void behindTheLimit() {
    CaptionDesk d = closedPage(31, 'y');
    Packets.send(d, Packets.header(1, 1, 0));
    Packets.send(d, Packets.text(1, 10, "y".repeat(31) + "z"));
    close(d, 1);
    d.tick(1);
    Check.due("a letter behind 400", 1, d.cues());
    Packets.send(d, Packets.header(1, 1, 0));
    Packets.send(d, Packets.text(1, 24, "more"));
    close(d, 1);
    d.tick(1);
    Check.due("a row behind 400", 1, d.cues());
    Check.due("no end", NONE, d.cue(0, 2));
    Packets.send(d, Packets.header(1, 1, 0));
    Packets.send(d, Packets.text(1, 10, "y".repeat(30) + "zz"));
    close(d, 1);
    d.tick(1);
    Check.due("the last of the 400", 2, d.cues());
    Check.due("the end of the first", 4, d.cue(0, 2));
    Check.due("the last byte", 'z', d.line(1, 399));
  }

  /** "At a TICK the time grows; then": a cue begins at the time behind the TICK. */
  private static void cueBegins() {
    Caption c = painting();
    c.desk.tick(10);
    Check.due("without LINES none begins", 0, c.desk.cues());
    c.letters("A");
    Check.due("none before a TICK", 0, c.desk.cues());
    c.desk.tick(5);
    cueIs(c.desk, 0, 0, 15, NONE, "A\n");
  }

  /** "if its LINES are not those of its last cue that has no end": the same LINES make it go on. */
  private static void cueGoesOn() {
    Caption c = painting();
    c.letters("A");
    for (int i = 0; i < 20; i++) {
      c.desk.tick(1);
    }
    Check.due("one cue", 1, c.desk.cues());
    cueIs(c.desk, 0, 0, 1, NONE, "A\n");
    c.code(17, 35);
    c.desk.tick(1);
    Check.due("a space behind makes no other LINES", 1, c.desk.cues());
    c.row(1, 4, true);
    c.letters("A");
    c.desk.tick(1);
    Check.due("nor does another look", 1, c.desk.cues());
    c.letters("B");
    c.code(20, 33);
    c.desk.tick(1);
    Check.due("nor what comes and goes between", 1, c.desk.cues());
  }

  /** "that cue ends now" */
  private static void cueEnds() {
    Caption c = painting();
    c.letters("A");
    c.desk.tick(3);
    c.code(20, 44);
    c.desk.tick(4);
    cueIs(c.desk, 0, 0, 3, 7, "A\n");
    c.desk.tick(4);
    cueIs(c.desk, 0, 0, 3, 7, "A\n");
    c.row(1, 0, false);
    c.letters("A");
    c.desk.tick(1);
    cueIs(c.desk, 0, 0, 3, 7, "A\n");
    cueIs(c.desk, 1, 0, 12, NONE, "A\n");
  }

  /** "and if it has no such cue (any more), and there are any LINES, a cue begins now" */
  private static void cueEndsAndBegins() {
    Caption c = painting();
    c.letters("A");
    c.desk.tick(3);
    c.letters("B");
    c.desk.tick(4);
    cueIs(c.desk, 0, 0, 3, 7, "A\n");
    cueIs(c.desk, 1, 0, 7, NONE, "AB\n");
    c.code(20, 33);
    c.desk.tick(4);
    cueIs(c.desk, 1, 0, 7, 11, "AB\n");
    cueIs(c.desk, 2, 0, 11, NONE, "A\n");
    c.goTo(1, 0);
    c.letters("C");
    c.desk.tick(1);
    cueIs(c.desk, 2, 0, 11, 12, "A\n");
    cueIs(c.desk, 3, 0, 12, NONE, "C\n");
  }

  /** Each source has a last cue of its own, though another one has the same LINES. */
  private static void sameLinesElsewhere() {
    Caption c = painting();
    c.letters("A");
    c.desk.tick(1);
    c.code2(20, 41);
    c.letters("A");
    c.desk.tick(1);
    cueIs(c.desk, 1, 1, 2, NONE, "A\n");
    c.code(20, 44);
    c.desk.tick(1);
    cueIs(c.desk, 0, 0, 1, 3, "A\n");
    cueIs(c.desk, 1, 1, 2, NONE, "A\n");
    Check.due("two", 2, c.desk.cues());
  }

  /** So many cues of channel 0 by turns, the last one without an end. */
  private static Caption withCues(int count) {
    Caption c = painting();
    for (int i = 0; i < count; i++) {
      c.row(1, 0, false);
      c.letters(i % 2 == 0 ? "a" : "b");
      c.desk.tick(1);
    }
    return c;
  }

  /** "if there are fewer than 60" */
  private static void fewerThan60() {
    for (int count = 58; count <= 62; count++) {
      Caption c = withCues(count);
      Check.due("cues", Math.min(count, 60), c.desk.cues());
      if (count >= 59) {
        Check.due("the end of cue 58", count == 59 ? NONE : 60, c.desk.cue(58, 2));
      }
      if (count >= 60) {
        Check.due("the end of cue 59", count == 60 ? NONE : 61, c.desk.cue(59, 2));
        Check.outside("no cue 60", () -> c.desk.cue(60, 0));
        Check.outside("no line of it", () -> c.desk.line(60, 0));
      }
    }
  }

  /** At 59 cues the first source in order takes the last place. */
  private static void sourcesAt60() {
    Caption c = withCues(59);
    c.row(1, 0, false);
    c.letters("z");
    c.code2(20, 41);
    c.letters("y");
    c.desk.tick(1);
    Check.due("60", 60, c.desk.cues());
    cueIs(c.desk, 59, 0, 60, NONE, "z\n");
    Check.due("cue 58 ends", 60, c.desk.cue(58, 2));
    c.code(20, 44);
    c.desk.tick(1);
    cueIs(c.desk, 59, 0, 60, 61, "z\n");
    Check.due("no more", 60, c.desk.cues());
  }

  /** Cues that have ended count too: there is no room again. */
  private static void roomIsNotMade() {
    Caption c = withCues(60);
    c.code(20, 44);
    c.desk.tick(1);
    Check.due("the last one ends", 61, c.desk.cue(59, 2));
    c.row(1, 0, false);
    c.letters("q");
    c.desk.tick(1);
    c.desk.tick(1);
    Check.due("60 still", 60, c.desk.cues());
    Check.due("it ended once", 61, c.desk.cue(59, 2));
    Check.due("the time goes on", 64, c.desk.tick(1));
  }

  /** "Of cue i: what = 0 its source" .. "IndexOutOfBoundsException." */
  private static void cueIndexes() {
    for (int count : new int[] {1, 2, 59, 60}) {
      CaptionDesk d = withCues(count).desk;
      Check.indexes("cue's i of " + count, 0, count - 1, i -> d.cue(i, 3));
      Check.indexes("cue's what", 0, 3, what -> d.cue(count - 1, what));
    }
    CaptionDesk none = new CaptionDesk();
    Check.outside("none", () -> none.cue(0, 0));
    Check.outside("nor NONE", () -> none.cue(NONE, 0));
  }

  /** "Byte k of the LINES of cue i. IndexOutOfBoundsException." */
  private static void lineIndexes() {
    CaptionDesk d = withCues(2).desk;
    Check.indexes("line's i", 0, 1, i -> d.line(i, 1));
    Check.indexes("line's k", 0, 1, k -> d.line(1, k));
    CaptionDesk full = shownOnce("x".repeat(32));
    Check.indexes("line's k of a full row", 0, 32, k -> full.line(0, k));
    Check.due("its last letter", 'x', full.line(0, 31));
    Check.due("its end", 10, full.line(0, 32));
    Check.outside("no cue", () -> new CaptionDesk().line(0, 0));
  }
}
