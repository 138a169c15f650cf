/** Cues as they come and go: ordinary runs for promises 16 to 20. CueEdgesTest has the edges. */
public final class CuesTest {
  public static void main(String[] args) {
    cueOfChannel();
    hiddenIsNoSource();
    linesOfScreen();
    lettersAbove255();
    changes();
    sameLines();
    sourcesInOrder();
    linesLimit();
    watchedPage();
    watchAgain();
    watchedSubcodes();
    pageLines();
    Check.end("CuesTest");
  }

  private static String text(CaptionDesk d, int i) {
    StringBuilder b = new StringBuilder();
    for (int k = 0; k < d.cue(i, 3); k++) {
      b.append((char) d.line(i, k));
    }
    return b.toString();
  }

  private static void cueIs(CaptionDesk d, int i, int source, int begin, int end, String lines) {
    Check.due("source of " + i, source, d.cue(i, 0));
    Check.due("begin of " + i, begin, d.cue(i, 1));
    Check.due("end of " + i, end, d.cue(i, 2));
    Check.isTrue("lines of " + i + ": " + lines, text(d, i).equals(lines));
  }

  private static void cueOfChannel() {
    Caption c = new Caption(0);
    c.paint();
    c.letters("Hi");
    Check.due("none before a tick", 0, c.desk.cues());
    c.desk.tick(5);
    Check.due("one", 1, c.desk.cues());
    cueIs(c.desk, 0, 0, 5, -1, "Hi\n");
    c.desk.tick(5);
    Check.due("still one", 1, c.desk.cues());
    cueIs(c.desk, 0, 0, 5, -1, "Hi\n");
    c.code(20, 44);
    cueIs(c.desk, 0, 0, 5, -1, "Hi\n");
    c.desk.tick(7);
    cueIs(c.desk, 0, 0, 5, 17, "Hi\n");
    c.desk.tick(1);
    Check.due("no other", 1, c.desk.cues());
    cueIs(c.desk, 0, 0, 5, 17, "Hi\n");
  }

  private static void hiddenIsNoSource() {
    Caption c = new Caption(0);
    c.pop();
    c.letters("Hi");
    c.desk.tick(1);
    Check.due("hidden", 0, c.desk.cues());
    c.code(20, 47);
    c.desk.tick(1);
    cueIs(c.desk, 0, 0, 2, -1, "Hi\n");
  }

  private static void linesOfScreen() {
    Caption c = new Caption(0);
    c.paint();
    c.row(2, 9, false);
    c.letters(" A ");
    c.code(23, 35);
    c.letters("B ");
    c.row(3, 0, false);
    c.letters("    ");
    c.row(5, 15, false);
    c.letters("abcz");
    c.row(15, 0, false);
    c.letters("!");
    c.desk.tick(3);
    cueIs(c.desk, 0, 0, 3, -1, "A    B\nabcz\n!\n");
    Caption spaces = new Caption(0);
    spaces.paint();
    spaces.letters("  ");
    spaces.desk.tick(1);
    Check.due("spaces are no lines", 0, spaces.desk.cues());
  }

  private static void lettersAbove255() {
    Caption c = new Caption(0);
    c.paint();
    c.code(17, 48);
    c.letters(" x ");
    c.code(17, 58);
    c.letters("q");
    c.code(19, 63);
    c.desk.tick(1);
    cueIs(c.desk, 0, 0, 1, -1, "\0 x \n" + (char) (335 & 255) + "\n");
    c.desk.pair(0, Caption.right(127), Caption.right(0));
    c.desk.tick(1);
    Check.due("127 is a letter", 127, c.desk.line(1, 6));
  }

  private static void changes() {
    Caption c = new Caption(1);
    c.roll(2);
    c.letters("one");
    c.desk.tick(10);
    c.code(20, 45);
    c.desk.tick(10);
    Check.due("rolled up: the same lines", 1, c.desk.cues());
    c.letters("two");
    c.desk.tick(10);
    Check.due("two", 2, c.desk.cues());
    cueIs(c.desk, 0, 2, 10, 30, "one\n");
    cueIs(c.desk, 1, 2, 30, -1, "one\ntwo\n");
    c.code(20, 44);
    c.desk.tick(10);
    cueIs(c.desk, 1, 2, 30, 40, "one\ntwo\n");
    Check.due("still two", 2, c.desk.cues());
  }

  private static void sameLines() {
    Caption c = new Caption(0);
    c.paint();
    c.letters("ab");
    c.desk.tick(1);
    c.code(20, 44);
    c.letters("ab");
    c.desk.tick(1);
    Check.due("the place is no matter", 1, c.desk.cues());
    c.code(20, 33);
    c.letters("c");
    c.desk.tick(1);
    Check.due("as long, but others", 2, c.desk.cues());
    cueIs(c.desk, 0, 0, 1, 3, "ab\n");
    cueIs(c.desk, 1, 0, 3, -1, "ac\n");
    c.code(20, 33);
    c.letters("b");
    c.desk.tick(1);
    cueIs(c.desk, 2, 0, 4, -1, "ab\n");
    c.code(20, 44);
    c.desk.tick(1);
    c.row(1, 0, false);
    c.letters("ab");
    c.desk.tick(1);
    cueIs(c.desk, 3, 0, 6, -1, "ab\n");
  }

  private static void sourcesInOrder() {
    CaptionDesk d = new CaptionDesk();
    d.watch(1, 1);
    Packets.send(d, Packets.header(1, 1, 0));
    Packets.send(d, Packets.text(1, 1, "page"));
    Packets.send(d, Packets.header(1, 255, 0));
    int[] fields = {1, 1, 0, 0};
    int[] bits = {8, 0, 8, 0};
    for (int i = 0; i < 4; i++) {
      d.pair(fields[i], Caption.right(20 + bits[i]), Caption.right(41));
      d.pair(fields[i], Caption.right('A' + i), Caption.right(0));
    }
    d.tick(9);
    Check.due("five", 5, d.cues());
    for (int i = 0; i < 4; i++) {
      cueIs(d, i, i, 9, -1, (char) ('D' - i) + "\n");
    }
    cueIs(d, 4, 4, 9, -1, "page\n");
    d.pair(0, Caption.right(28), Caption.right(44));
    d.tick(1);
    Check.due("just that one ends", 10, d.cue(1, 2));
    Check.due("not channel 0", -1, d.cue(0, 2));
    Check.due("not the page", -1, d.cue(4, 2));
  }

  private static void linesLimit() {
    Caption c = new Caption(0);
    c.paint();
    for (int row = 1; row <= 15; row++) {
      c.row(row, 0, false);
      for (int i = 0; i < 16; i++) {
        c.letters("" + (char) (64 + row) + (char) (64 + row));
      }
    }
    c.desk.tick(1);
    Check.due("400", 400, c.desk.cue(0, 3));
    Check.due("row 12 ends", 10, c.desk.line(0, 395));
    Check.due("the last byte", 64 + 13, c.desk.line(0, 399));
    Check.outside("no byte 400", () -> c.desk.line(0, 400));
    c.code(20, 33);
    c.desk.tick(1);
    Check.due("what is behind 400 does not count", 1, c.desk.cues());
    c.row(13, 0, false);
    c.letters("abc");
    c.desk.tick(1);
    Check.due("byte 396 counts", 2, c.desk.cues());
  }

  private static void watchedPage() {
    CaptionDesk d = new CaptionDesk();
    Packets.send(d, Packets.header(1, 136, 0));
    Packets.send(d, Packets.text(1, 20, "before"));
    Packets.send(d, Packets.header(1, 136, 0));
    Check.due("watch", 1, d.watch(1, 136));
    d.tick(1);
    Check.due("CLOSED before", 0, d.cues());
    Packets.send(d, Packets.text(1, 20, "after "));
    d.tick(1);
    Check.due("not CLOSED yet", 0, d.cues());
    Packets.send(d, Packets.header(1, 136, 0, 1));
    d.tick(1);
    cueIs(d, 0, 4, 3, -1, "after\n");
    Packets.send(d, Packets.text(1, 2, "new"));
    d.tick(1);
    Check.due("as it was then", 1, d.cues());
    Packets.send(d, Packets.header(2, 1, 0));
    d.tick(1);
    Check.due("another magazine closes nothing", 1, d.cues());
    Packets.send(d, Packets.header(2, 2, 0, 8));
    d.tick(1);
    cueIs(d, 0, 4, 3, 6, "after\n");
    cueIs(d, 1, 4, 6, -1, "new\n");
    Packets.send(d, Packets.header(1, 137, 0));
    Packets.send(d, Packets.text(1, 2, "other"));
    Packets.send(d, Packets.header(1, 255, 0));
    d.tick(1);
    Check.due("another number", 2, d.cues());
    Packets.send(d, Packets.header(1, 136, 0, 1));
    Packets.send(d, Packets.header(1, 255, 0));
    d.tick(1);
    Check.due("an empty page ends it", 8, d.cue(1, 2));
    Check.due("no cue of it", 2, d.cues());
  }

  private static void watchAgain() {
    CaptionDesk d = new CaptionDesk();
    d.watch(8, 0);
    Packets.send(d, Packets.header(8, 0, 0));
    Packets.send(d, Packets.text(8, 1, "a"));
    Packets.send(d, Packets.header(8, 0, 0));
    d.tick(1);
    Check.due("a cue", 1, d.cues());
    d.watch(8, 0);
    d.tick(1);
    Check.due("CLOSED before it is watched again", 2, d.cue(0, 2));
    Check.due("no cue", 1, d.cues());
    Packets.send(d, Packets.header(8, 0, 0));
    d.tick(1);
    cueIs(d, 1, 4, 3, -1, "a\n");
    d.watch(1, 254);
    Packets.send(d, Packets.header(8, 0, 0));
    d.tick(1);
    Check.due("another one is watched", 4, d.cue(1, 2));
    Check.throwing("wrong", IllegalArgumentException.class, () -> d.watch(9, 0));
    Packets.send(d, Packets.header(1, 254, 0));
    Packets.send(d, Packets.text(1, 1, "b"));
    Packets.send(d, Packets.header(1, 255, 0));
    d.tick(1);
    cueIs(d, 2, 4, 5, -1, "b\n");
  }

  private static void watchedSubcodes() {
    CaptionDesk d = new CaptionDesk();
    d.watch(3, 9);
    for (int s = 0; s < 3; s++) {
      Packets.send(d, Packets.header(3, 9, s));
      Packets.send(d, Packets.text(3, 1, "sub" + s));
    }
    d.tick(1);
    cueIs(d, 0, 4, 1, -1, "sub1\n");
    Packets.send(d, Packets.header(3, 9, 0));
    d.tick(1);
    cueIs(d, 1, 4, 2, -1, "sub2\n");
    for (int i = 0; i < 21; i++) {
      Packets.send(d, Packets.header(4, i, 0));
    }
    d.tick(1);
    Check.due("it left the store", -1, d.find(3, 9, -1));
    Check.due("but it is kept as it was", -1, d.cue(1, 2));
  }

  private static void pageLines() {
    CaptionDesk d = new CaptionDesk();
    d.watch(1, 1);
    Packets.send(d, Packets.withText(Packets.header(1, 1, 0), 10, "HEADER"));
    Packets.send(d, Packets.text(1, 1, "  \u0001\u0002a\u0003b c\u0004 "));
    Packets.send(d, Packets.text(1, 2, "\u0001 \u001F"));
    int[] last = Packets.text(1, 24, "");
    last[41] = Caption.right('z');
    Packets.send(d, last);
    Packets.send(d, Packets.header(1, 1, 0));
    d.tick(1);
    cueIs(d, 0, 4, 1, -1, "a b c\nz\n");
  }
}
