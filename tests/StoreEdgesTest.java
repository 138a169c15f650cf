/**
 * Pages that are OPEN, CLOSED, and kept in the STORE (promises 10 to 12, 15, and ROW 0 of
 * 2 PACKETS), sentence by sentence: each boundary itself and both its sides. The sentence stands
 * above its test.
 */
public final class StoreEdgesTest {
  private static final int NONE = -1;
  private static final int SERIAL = 8;

  public static void main(String[] args) {
    newStore();
    closedByHeader();
    closedOnlyIfOpen();
    closedBySerial();
    serialOrNot();
    number255();
    openInItsMagazine();
    samePageAgain();
    namesOfPages();
    storeFillsUp();
    knownPageOfFullStore();
    noPageOfFullStore();
    oldestByHeader();
    openOneGoes();
    openOneClosedBefore();
    newPageIsEmpty();
    findPlaces();
    findLatest();
    findOutside();
    pageIndexes();
    openIndexes();
    Check.end("StoreEdgesTest");
  }

  private static void headers(CaptionDesk d, int magazine, int from, int to) {
    for (int number = from; number < to; number++) {
      Packets.send(d, Packets.header(magazine, number, 0));
    }
  }

  private static void isClosed(String what, CaptionDesk d, int place, int times) {
    Check.due(what + ": CLOSED", times, d.page(place, 5));
    Check.due(what + ": OPEN", 0, d.page(place, 4));
  }

  /** "an empty tape, an empty store" */
  private static void newStore() {
    CaptionDesk d = new CaptionDesk();
    Check.due("no pages", 0, d.pages());
    for (int magazine = 1; magazine <= 8; magazine++) {
      Check.due("none is OPEN", NONE, d.open(magazine));
    }
    Check.due("none is found", NONE, d.find(1, 0, 0));
    Check.throwing("no tape", IllegalStateException.class, d::packet);
    Check.outside("no page", () -> d.page(0, 0));
  }

  /** "The page that is OPEN in its MAGAZINE is CLOSED" */
  private static void closedByHeader() {
    for (int magazine = 1; magazine <= 8; magazine++) {
      CaptionDesk d = new CaptionDesk();
      for (int m = 1; m <= 8; m++) {
        Packets.send(d, Packets.header(m, 1, 0));
      }
      Packets.send(d, Packets.header(magazine, 2, 0));
      for (int m = 1; m <= 8; m++) {
        Check.due("OPEN in " + m, m == magazine ? 8 : m - 1, d.open(m));
        Check.due("CLOSED in " + m, m == magazine ? 1 : 0, d.page(m - 1, 5));
        Check.due("OPEN at " + (m - 1), m == magazine ? 0 : 1, d.page(m - 1, 4));
      }
    }
  }

  /** A page that is not OPEN is not CLOSED again. */
  private static void closedOnlyIfOpen() {
    CaptionDesk d = new CaptionDesk();
    Packets.send(d, Packets.header(1, 1, 0));
    Packets.send(d, Packets.header(1, 255, 0));
    isClosed("once", d, 0, 1);
    Packets.send(d, Packets.header(1, 255, 0));
    Packets.send(d, Packets.header(2, 255, 0, SERIAL));
    Packets.send(d, Packets.header(1, 2, 0));
    isClosed("still once", d, 0, 1);
    Packets.send(d, Packets.header(1, 1, 0));
    Check.due("OPEN again", 1, d.page(1, 4));
    Check.due("CLOSED once before", 1, d.page(1, 5));
    Packets.send(d, Packets.header(1, 3, 0));
    isClosed("twice", d, 1, 2);
  }

  /** "if v7 is odd, those of all MAGAZINES" */
  private static void closedBySerial() {
    for (int magazine = 1; magazine <= 8; magazine++) {
      CaptionDesk d = new CaptionDesk();
      for (int m = 1; m <= 8; m++) {
        Packets.send(d, Packets.header(m, 1, 0));
      }
      Packets.send(d, Packets.header(magazine, 2, 0, SERIAL));
      for (int m = 1; m <= 8; m++) {
        Check.due("OPEN in " + m, m == magazine ? 8 : NONE, d.open(m));
        isClosed("in " + m, d, m - 1, 1);
      }
      Check.due("the new one is OPEN", 1, d.page(8, 4));
      Check.due("it is not CLOSED", 0, d.page(8, 5));
    }
  }

  private static void serialOrNot() {
    for (int v7 = 0; v7 < 16; v7++) {
      CaptionDesk d = new CaptionDesk();
      Packets.send(d, Packets.header(5, 1, 0));
      Packets.send(d, Packets.with(Packets.header(6, 1, 0), 9, Packets.GUARDED[v7]));
      Check.due("OPEN by v7 " + v7, v7 % 2 == 1 ? NONE : 0, d.open(5));
      Check.due("CLOSED by v7 " + v7, v7 % 2, d.page(0, 5));
    }
  }

  /** "NUMBER 16 v1 + v0; 255: that is all." */
  private static void number255() {
    for (int number : new int[] {0, 15, 16, 239, 240, 253, 254, 255}) {
      for (int flags : new int[] {0, SERIAL}) {
        CaptionDesk d = new CaptionDesk();
        Packets.send(d, Packets.header(1, 100, 0));
        Packets.send(d, Packets.header(2, 100, 0));
        Check.due("row 0", 0, Packets.send(d, Packets.header(1, number, 0, flags)));
        isClosed("by " + number, d, 0, 1);
        Check.due("MAGAZINE 2", flags == SERIAL ? NONE : 1, d.open(2));
        Check.due("pages by " + number, number == 255 ? 2 : 3, d.pages());
        Check.due("OPEN by " + number, number == 255 ? NONE : 2, d.open(1));
        Check.due("found", number == 255 ? NONE : 2, d.find(1, number, 0));
        Check.due("it is not nothing", 0, d.nothing(0) + d.nothing(1) + d.nothing(2));
      }
    }
  }

  /** "The page of this MAGAZINE, NUMBER, SUBCODE is OPEN now (in its MAGAZINE)" */
  private static void openInItsMagazine() {
    CaptionDesk d = new CaptionDesk();
    for (int magazine = 1; magazine <= 8; magazine++) {
      Packets.send(d, Packets.header(magazine, 7, 7));
      for (int m = 1; m <= 8; m++) {
        Check.due("OPEN in " + m, m <= magazine ? m - 1 : NONE, d.open(m));
      }
      Check.due("its MAGAZINE", magazine, d.page(magazine - 1, 0));
      Check.due("its header", 1, d.page(magazine - 1, 6));
    }
    Check.due("eight pages", 8, d.pages());
  }

  /** The header of the page that is OPEN closes it first, and opens it again. */
  private static void samePageAgain() {
    CaptionDesk d = new CaptionDesk();
    for (int i = 0; i < 30; i++) {
      Packets.send(d, Packets.header(1, 1, 1, i % 2 * SERIAL));
      Check.due("one page", 1, d.pages());
      Check.due("headers", i + 1, d.page(0, 6));
      Check.due("CLOSED", i, d.page(0, 5));
      Check.due("OPEN", 1, d.page(0, 4));
      Check.due("its place", 0, d.open(1));
    }
  }

  /** Each of MAGAZINE, NUMBER and SUBCODE makes another page, at their ends too. */
  private static void namesOfPages() {
    CaptionDesk d = new CaptionDesk();
    int[][] names = {{1, 0, 0}, {8, 0, 0}, {1, 254, 0}, {8, 254, 0}, {1, 0, 8191}, {8, 254, 8191}, {1, 0, 1},
      {1, 1, 0}, {1, 0, 16}, {1, 0, 128}, {1, 0, 2048}, {1, 16, 0}};
    for (int i = 0; i < names.length; i++) {
      Packets.send(d, Packets.header(names[i][0], names[i][1], names[i][2]));
      Check.due("another page", i + 1, d.pages());
    }
    for (int i = 0; i < names.length; i++) {
      Check.due("found", i, d.find(names[i][0], names[i][1], names[i][2]));
      for (int what = 0; what < 3; what++) {
        Check.due("its name", names[i][what], d.page(i, what));
      }
    }
  }

  /** "if there are 20, the one whose header is oldest goes before" */
  private static void storeFillsUp() {
    CaptionDesk d = new CaptionDesk();
    for (int i = 0; i < 23; i++) {
      Packets.send(d, Packets.header(1, i, 0));
      Check.due("pages", Math.min(i + 1, 20), d.pages());
      Check.due("the oldest", Math.max(i - 19, 0), d.page(0, 1));
      Check.due("the latest", i, d.page(d.pages() - 1, 1));
      Check.due("the oldest is found or gone", i < 20 ? 0 : NONE, d.find(1, 0, 0));
      Check.outside("no place behind", () -> d.page(d.pages(), 0));
    }
    for (int place = 0; place < 20; place++) {
      Check.due("place " + place, place + 3, d.page(place, 1));
    }
  }

  /** "if it is not in the STORE": one that is there makes none go. */
  private static void knownPageOfFullStore() {
    for (int number : new int[] {0, 1, 18, 19}) {
      CaptionDesk d = new CaptionDesk();
      headers(d, 1, 0, 20);
      Packets.send(d, Packets.header(1, number, 0));
      Check.due("pages", 20, d.pages());
      Check.due("it is the latest", number, d.page(19, 1));
      Check.due("two headers", 2, d.page(19, 6));
      Check.due("the oldest", number == 0 ? 1 : 0, d.page(0, 1));
      Check.due("OPEN", 19, d.open(1));
      Check.due("the one of the same place elsewhere", 18, d.find(1, number == 19 ? 18 : 19, 0));
    }
  }

  private static void noPageOfFullStore() {
    CaptionDesk d = new CaptionDesk();
    headers(d, 1, 0, 20);
    Packets.send(d, Packets.header(2, 255, 0));
    Packets.send(d, Packets.with(Packets.header(2, 1, 0), 5, Packets.WRONG));
    Packets.send(d, Packets.text(2, 1, "x"));
    Check.due("none comes, none goes", 20, d.pages());
    Check.due("the oldest", 0, d.find(1, 0, 0));
    Check.due("OPEN", 19, d.open(1));
  }

  /** "the one whose header is oldest": its latest header counts, not its first one, nor its rows. */
  private static void oldestByHeader() {
    CaptionDesk d = new CaptionDesk();
    headers(d, 1, 0, 20);
    headers(d, 1, 0, 2);
    Packets.send(d, Packets.header(2, 0, 0));
    Check.due("2 goes", NONE, d.find(1, 2, 0));
    Check.due("0 stays", 17, d.find(1, 0, 0));
    Check.due("3 is first", 3, d.page(0, 1));
    CaptionDesk rows = new CaptionDesk();
    Packets.send(rows, Packets.header(2, 0, 0));
    headers(rows, 1, 0, 19);
    Packets.send(rows, Packets.text(2, 1, "x"));
    Packets.send(rows, Packets.links(2));
    Packets.send(rows, Packets.header(3, 0, 0));
    Check.due("rows are no headers", NONE, rows.find(2, 0, 0));
  }

  /** "OPEN or not; it is not CLOSED by that" */
  private static void openOneGoes() {
    CaptionDesk d = new CaptionDesk();
    d.watch(2, 0);
    Packets.send(d, Packets.header(2, 0, 0));
    Packets.send(d, Packets.text(2, 1, "x"));
    headers(d, 1, 0, 19);
    Check.due("OPEN and oldest", 0, d.open(2));
    Packets.send(d, Packets.header(3, 0, 0));
    Check.due("it is gone", NONE, d.open(2));
    Check.due("not in the STORE", NONE, d.find(2, 0, NONE));
    d.tick(1);
    Check.due("not CLOSED", 0, d.cues());
    Check.due("nor is the one that stays", 1, d.page(18, 4));
    Packets.send(d, Packets.text(2, 1, "y"));
    Check.due("its rows are nothing", 1, d.nothing(2));
    Packets.send(d, Packets.header(2, 255, 0));
    Packets.send(d, Packets.header(2, 0, 0));
    Check.due("it comes as another page", 0, d.page(19, 5));
    Check.due("with one header", 1, d.page(19, 6));
    Check.due("and empty", 0, d.sign(19, 1, 0));
    d.tick(1);
    Check.due("never CLOSED", 0, d.cues());
  }

  /** "The page that is OPEN in its MAGAZINE is CLOSED" comes first: what goes then was CLOSED by the same header. */
  private static void openOneClosedBefore() {
    for (int way = 0; way < 2; way++) {
      CaptionDesk d = new CaptionDesk();
      d.watch(2, 0);
      Packets.send(d, Packets.header(2, 0, 0));
      Packets.send(d, Packets.text(2, 1, "x"));
      headers(d, 1, 0, 19);
      Packets.send(d, way == 0 ? Packets.header(2, 1, 0) : Packets.header(1, 19, 0, SERIAL));
      Check.due("it is gone", NONE, d.find(2, 0, 0));
      d.tick(1);
      Check.due("but was CLOSED", 1, d.cues());
      Check.due("as it was", 'x', d.line(0, 0));
    }
  }

  /** "it comes to it, empty": with nothing of the page that went. */
  private static void newPageIsEmpty() {
    CaptionDesk d = new CaptionDesk();
    for (int i = 0; i < 3; i++) {
      Packets.send(d, Packets.withText(Packets.header(1, 0, 0, 6), 10, "old"));
    }
    for (int row : new int[] {1, 12, 24}) {
      Packets.send(d, Packets.rowOf(1, row, 'x'));
    }
    Packets.send(d, Packets.links(1));
    headers(d, 1, 1, 20);
    int[] spoilt = Packets.header(1, 100, 5);
    for (int i = 10; i < 42; i++) {
      spoilt[i] = Caption.bad('y');
    }
    Packets.send(d, spoilt);
    Check.due("20", 20, d.pages());
    for (int column = 0; column < 40; column++) {
      Check.due("row 0", 32, d.sign(19, 0, column));
    }
    for (int row = 1; row < 25; row++) {
      Check.due("row " + row, 0, d.sign(19, row, 39));
    }
    for (int k = 0; k < 6; k++) {
      Check.due("link " + k, NONE, d.link(19, k, k % 3));
    }
    int[] want = {1, 100, 5, 0, 1, 0, 1};
    for (int what = 0; what < 7; what++) {
      Check.due("page " + what, want[what], d.page(19, what));
    }
  }

  /** "its place there (0 the one whose header is oldest, and so on); NONE." */
  private static void findPlaces() {
    CaptionDesk d = new CaptionDesk();
    headers(d, 4, 0, 20);
    for (int number = 0; number < 20; number++) {
      Check.due("place of " + number, number, d.find(4, number, 0));
    }
    Check.due("no 20", NONE, d.find(4, 20, 0));
    Packets.send(d, Packets.header(4, 0, 0));
    for (int number = 0; number < 20; number++) {
      Check.due("later place of " + number, (number + 19) % 20, d.find(4, number, 0));
    }
  }

  /** "SUBCODE NONE: the one of these whose header is latest." */
  private static void findLatest() {
    CaptionDesk d = new CaptionDesk();
    for (int subcode : new int[] {5, 0, 8191}) {
      Packets.send(d, Packets.header(4, 1, subcode));
    }
    Packets.send(d, Packets.header(4, 2, 9));
    Packets.send(d, Packets.header(5, 1, 9));
    Check.due("the latest of them", 2, d.find(4, 1, NONE));
    Check.due("0 is a SUBCODE", 1, d.find(4, 1, 0));
    Check.due("the only one", 4, d.find(5, 1, NONE));
    Check.due("none of these", NONE, d.find(5, 2, NONE));
    Packets.send(d, Packets.header(4, 1, 5));
    Check.due("the latest header", 4, d.find(4, 1, NONE));
    Check.due("its place", 4, d.find(4, 1, 5));
    Check.due("the others come down", 0, d.find(4, 1, 0));
  }

  /** What no page has is not found, however far away; find refuses nothing. */
  private static void findOutside() {
    CaptionDesk d = new CaptionDesk();
    Packets.send(d, Packets.header(8, 254, 8191));
    Packets.send(d, Packets.header(1, 0, 0));
    Check.due("there", 0, d.find(8, 254, 8191));
    for (int i : new int[] {NONE, 0, 9, 16, Integer.MIN_VALUE, Integer.MAX_VALUE}) {
      Check.due("MAGAZINE " + i, NONE, d.find(i, 254, 8191));
    }
    for (int i : new int[] {NONE, 253, 255, 254 + 256, Integer.MIN_VALUE, Integer.MAX_VALUE}) {
      Check.due("NUMBER " + i, NONE, d.find(8, i, 8191));
    }
    for (int i : new int[] {-2, 0, 8190, 8192, Integer.MIN_VALUE, Integer.MAX_VALUE}) {
      Check.due("SUBCODE " + i, NONE, d.find(8, 254, i));
    }
  }

  /** "Of the page at a place: what = 0 MAGAZINE" .. "6 how many headers it had. IndexOutOfBoundsException." */
  private static void pageIndexes() {
    CaptionDesk d = new CaptionDesk();
    Check.outside("an empty store", () -> d.page(0, 0));
    Check.outside("nor NONE", () -> d.page(NONE, 0));
    for (int count = 1; count <= 20; count++) {
      Packets.send(d, Packets.header(1, count, 0));
      Check.indexes("page's place of " + count, 0, count - 1, i -> d.page(i, 6));
    }
    Check.indexes("page's what", 0, 6, i -> d.page(19, i));
  }

  /** "a MAGAZINE 1 .. 8; NONE. IndexOutOfBoundsException." */
  private static void openIndexes() {
    CaptionDesk d = new CaptionDesk();
    Check.indexes("open's magazine", 1, 8, d::open);
    Packets.send(d, Packets.header(8, 1, 0));
    Check.due("8", 0, d.open(8));
    Check.outside("not 0 for it", () -> d.open(0));
  }
}
