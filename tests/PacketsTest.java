/** Pages as they come: ordinary runs for promises 6 to 15. PacketEdgesTest and StoreEdgesTest have the edges. */
public final class PacketsTest {
  private static final int[] G = Packets.GUARDED;

  public static void main(String[] args) {
    guardedBytes();
    tapeBytes();
    headers();
    headerText();
    closing();
    serialHeaders();
    erase();
    rowText();
    rowsWithoutPage();
    links();
    storeOrder();
    storeLimit();
    openPageGoes();
    find();
    Check.end("PacketsTest");
  }

  private static void guardedBytes() {
    CaptionDesk d = new CaptionDesk();
    for (int v = 0; v < 16; v++) {
      Check.due("right " + v, v, d.guarded(G[v]));
      Check.due("lowest bits " + v, v, d.guarded(G[v] - 256));
      for (int i = 0; i < 8; i++) {
        Check.due("one bit of " + v, 16 + v, d.guarded(G[v] ^ 1 << i));
      }
    }
    CaptionDesk e = new CaptionDesk();
    for (int v = 0; v < 16; v++) {
      for (int i = 0; i < 8; i++) {
        for (int k = 0; k < i; k++) {
          Check.due("two bits of " + v, -1, e.guarded(G[v] ^ 1 << i ^ 1 << k));
        }
      }
    }
    Check.due("more than a byte", 5, e.guarded(G[5] | 0x12345600));
  }

  private static void tapeBytes() {
    CaptionDesk d = new CaptionDesk();
    Packets.send(d, Packets.header(1, 0, 0));
    StringBuilder all = new StringBuilder();
    for (int i = 0; i < 40; i++) {
      all.append((char) (33 + i));
    }
    Packets.send(d, Packets.text(1, 5, all.toString()));
    for (int i = 0; i < 40; i++) {
      Check.due("byte " + i, 33 + i, d.sign(0, 5, i));
    }
  }

  private static void headers() {
    CaptionDesk d = new CaptionDesk();
    int[][] pages = {{8, 0, 0, 0}, {1, 254, 8191, 15}, {7, 16, 128 * 5 + 16 * 3 + 9, 2}, {3, 15, 4096, 4},
      {2, 0x88, 2048, 1}, {4, 1, 112, 8}};
    for (int i = 0; i < pages.length; i++) {
      int[] p = pages[i];
      Check.due("header", 0, Packets.send(d, Packets.header(p[0], p[1], p[2], p[3])));
      for (int what = 0; what < 4; what++) {
        Check.due("page " + i + " what " + what, p[what], d.page(i, what));
      }
      Check.due("open", 1, d.page(i, 4));
      Check.due("closed", 0, d.page(i, 5));
      Check.due("headers", 1, d.page(i, 6));
      Check.due("its place", i, d.open(p[0]));
    }
    Check.due("pages", pages.length, d.pages());
    Packets.send(d, Packets.header(8, 0, 0, 6));
    Check.due("flags of the latest header", 6, d.page(5, 3));
    Check.due("other bits of v6 are free", 0,
        Packets.send(d, Packets.with(Packets.header(8, 1, 0), 8, G[15])));
    Check.due("no flags by them", 0, d.page(6, 3));
    Packets.send(d, Packets.with(Packets.header(8, 2, 0), 9, G[14]));
    Check.due("v7 even is not SERIAL", 0, d.page(d.open(8), 3));
  }

  private static void headerText() {
    CaptionDesk d = new CaptionDesk();
    int[] bytes = Packets.withText(Packets.header(1, 0, 0), 10, "ABCDEFGH");
    bytes[11] = Caption.bad('x');
    bytes[41] = Caption.right('!');
    bytes[40] = Caption.right(0);
    Packets.send(d, bytes);
    for (int i = 0; i < 8; i++) {
      Check.due("spaces", 32, d.sign(0, 0, i));
    }
    Check.due("text", 'A', d.sign(0, 0, 8));
    Check.due("not RIGHT in an empty row", 32, d.sign(0, 0, 9));
    Check.due("the last", '!', d.sign(0, 0, 39));
    Check.due("sign 0", 0, d.sign(0, 0, 38));
    Check.due("other rows are empty", 0, d.sign(0, 1, 0));
    int[] next = Packets.withText(Packets.header(1, 0, 0, 1), 10, "abcdefgh");
    next[10] = Caption.bad('x');
    next[40] = Caption.bad('x');
    Packets.send(d, next);
    Check.due("what was there stays, ERASE or not", 'A', d.sign(0, 0, 8));
    Check.due("0 stays", 0, d.sign(0, 0, 38));
    Check.due("the rest comes", 'b', d.sign(0, 0, 9));
  }

  private static void closing() {
    CaptionDesk d = new CaptionDesk();
    Packets.send(d, Packets.header(1, 1, 0));
    Packets.send(d, Packets.header(2, 1, 0));
    Packets.send(d, Packets.header(1, 2, 0));
    Check.due("closed", 0, d.page(0, 4));
    Check.due("once", 1, d.page(0, 5));
    Check.due("magazine 2 is open", 1, d.page(1, 4));
    Check.due("open(1)", 2, d.open(1));
    Check.due("open(2)", 1, d.open(2));
    Packets.send(d, Packets.header(1, 2, 0));
    Check.due("the same header closes and opens", 1, d.page(2, 4));
    Check.due("closed by it", 1, d.page(2, 5));
    Check.due("two headers", 2, d.page(2, 6));
    Packets.send(d, Packets.header(1, 2, 1));
    Check.due("another subcode is another page", 4, d.pages());
    Check.due("it is open", 3, d.open(1));
    Packets.send(d, Packets.header(1, 1, 0));
    Check.due("the old one is back, at the end", 3, d.open(1));
    Check.due("its headers", 2, d.page(3, 6));
    Check.due("its closings", 1, d.page(3, 5));
  }

  private static void serialHeaders() {
    CaptionDesk d = new CaptionDesk();
    for (int m = 1; m <= 8; m++) {
      Packets.send(d, Packets.header(m, 1, 0));
    }
    Packets.send(d, Packets.header(4, 2, 0, 8));
    for (int m = 1; m <= 8; m++) {
      Check.due("open " + m, m == 4 ? 8 : -1, d.open(m));
      Check.due("closed " + m, 1, d.page(m - 1, 5));
    }
    Packets.send(d, Packets.header(4, 2, 0, 8));
    Check.due("closed ones are not closed again", 1, d.page(0, 5));
    Check.due("it was", 1, d.page(8, 5));
  }

  private static void erase() {
    CaptionDesk d = new CaptionDesk();
    Packets.send(d, Packets.withText(Packets.header(1, 1, 0), 10, "HEAD"));
    Packets.send(d, Packets.text(1, 1, "one"));
    Packets.send(d, Packets.text(1, 24, "last"));
    Packets.send(d, Packets.links(1));
    Packets.send(d, Packets.header(1, 1, 0, 6));
    Check.due("without ERASE rows stay", 'o', d.sign(0, 1, 0));
    Check.due("links stay", 1, d.link(0, 0, 0));
    Packets.send(d, Packets.header(1, 1, 0, 1));
    Check.due("row 1", 0, d.sign(0, 1, 0));
    Check.due("row 24", 0, d.sign(0, 24, 3));
    Check.due("row 0 is new", 32, d.sign(0, 0, 8));
    for (int k = 0; k < 6; k++) {
      for (int what = 0; what < 3; what++) {
        Check.due("no link", -1, d.link(0, k, what));
      }
    }
    int[] spoilt = Packets.text(1, 1, "two");
    spoilt[2] = Caption.bad('x');
    Packets.send(d, spoilt);
    Check.due("an empty row again", 32, d.sign(0, 1, 0));
  }

  private static void rowText() {
    CaptionDesk d = new CaptionDesk();
    Packets.send(d, Packets.header(1, 1, 0));
    int[] zeros = Packets.text(1, 3, "abc");
    zeros[3] = Caption.right(0);
    zeros[4] = Caption.right(127);
    zeros[5] = Caption.bad('z');
    Check.due("row 3", 3, Packets.send(d, zeros));
    Check.due("a", 'a', d.sign(0, 3, 0));
    Check.due("0", 0, d.sign(0, 3, 1));
    Check.due("127", 127, d.sign(0, 3, 2));
    Check.due("32 in an empty row", 32, d.sign(0, 3, 3));
    int[] spoilt = Packets.text(1, 3, "xyz!");
    spoilt[2] = Caption.bad('x');
    spoilt[3] = Caption.bad('y');
    Packets.send(d, spoilt);
    Check.due("a stays", 'a', d.sign(0, 3, 0));
    Check.due("0 stays", 0, d.sign(0, 3, 1));
    Check.due("z comes", 'z', d.sign(0, 3, 2));
    Check.due("! comes", '!', d.sign(0, 3, 3));
    Check.due("row 2 is empty", 0, d.sign(0, 2, 0));
    Check.due("row 4 is empty", 0, d.sign(0, 4, 0));
    for (int row = 1; row <= 24; row++) {
      Packets.send(d, Packets.text(1, row, "" + (char) (64 + row)));
    }
    for (int row = 1; row <= 24; row++) {
      Check.due("row " + row, 64 + row, d.sign(0, row, 0));
    }
  }

  private static void rowsWithoutPage() {
    CaptionDesk d = new CaptionDesk();
    Packets.send(d, Packets.header(1, 1, 0));
    Packets.send(d, Packets.text(2, 1, "x"));
    Check.due("row 1", 1, d.nothing(2));
    Packets.send(d, Packets.links(2));
    Check.due("row 27", 2, d.nothing(2));
    Packets.send(d, Packets.with(Packets.links(2), 2, G[1]));
    Check.due("row 27 of another kind", 3, d.nothing(2));
    Packets.send(d, Packets.with(Packets.links(1), 2, G[1]));
    Packets.send(d, Packets.with(Packets.links(1), 2, Packets.WRONG));
    Check.due("not with an OPEN page", 3, d.nothing(2));
    Check.due("nothing came to page 1", 0, d.sign(0, 1, 0));
  }

  private static void links() {
    CaptionDesk d = new CaptionDesk();
    Packets.send(d, Packets.header(8, 1, 0));
    for (int k = 0; k < 6; k++) {
      Check.due("no link at first", -1, d.link(0, k, k % 3));
    }
    int[] bytes = Packets.links(8);
    for (int k = 0; k < 6; k++) {
      Packets.withLink(bytes, k, k, 15 - k, k + 3, 7 - k, 15 - k, k % 4);
    }
    bytes[2] ^= 4;
    Check.due("row 27, byte 2 mended to 0", 27, Packets.send(d, bytes));
    for (int k = 0; k < 6; k++) {
      Check.due("magazine", 8, d.link(0, k, 0));
      Check.due("number", 16 * (15 - k) + k, d.link(0, k, 1));
      Check.due("subcode", k + 3 + 16 * (7 - k) + 128 * (15 - k) + 2048 * (k % 4), d.link(0, k, 2));
    }
    Packets.send(d, Packets.with(Packets.links(8), 2, G[1]));
    Check.due("byte 2 not 0", 240, d.link(0, 0, 1));
    Packets.send(d, Packets.with(Packets.links(8), 2, Packets.WRONG));
    Check.due("byte 2 WRONG", 240, d.link(0, 0, 1));
    Packets.send(d, Packets.links(8));
    Check.due("byte 2 is 0", 0, d.link(0, 0, 1));
  }

  private static void storeOrder() {
    CaptionDesk d = new CaptionDesk();
    for (int i = 0; i < 5; i++) {
      Packets.send(d, Packets.header(1, i, 0));
    }
    Packets.send(d, Packets.text(1, 1, "four"));
    Packets.send(d, Packets.header(1, 1, 0));
    int[] want = {0, 2, 3, 4, 1};
    for (int i = 0; i < 5; i++) {
      Check.due("place " + i, want[i], d.page(i, 1));
    }
    Check.due("its text goes with it", 'f', d.sign(3, 1, 0));
    Check.due("five pages", 5, d.pages());
  }

  private static void storeLimit() {
    CaptionDesk d = new CaptionDesk();
    for (int i = 0; i < 20; i++) {
      Packets.send(d, Packets.withText(Packets.header(1, i, 0), 10, "HEAD"));
    }
    Packets.send(d, Packets.header(1, 0, 0));
    for (int i = 0; i < 20; i++) {
      Check.due("place " + i + " of a full store", (i + 1) % 20, d.page(i, 1));
    }
    Packets.send(d, Packets.text(1, 1, "zero"));
    Packets.send(d, Packets.header(1, 1, 0));
    Packets.send(d, Packets.text(1, 1, "one"));
    Packets.send(d, Packets.links(1));
    Check.due("20", 20, d.pages());
    Packets.send(d, Packets.withText(Packets.header(1, 100, 7), 10, "HEAD"));
    Check.due("20 still", 20, d.pages());
    Check.due("the oldest is gone", -1, d.find(1, 2, 0));
    Check.due("3 is the oldest now", 3, d.page(0, 1));
    Check.due("the new one is last", 100, d.page(19, 1));
    for (int i = 3; i < 20; i++) {
      Packets.send(d, Packets.withText(Packets.header(1, 100 + i, 0), 10, "HEAD"));
    }
    Packets.send(d, Packets.header(1, 200, 0));
    Packets.send(d, Packets.header(1, 201, 0));
    Check.due("page 1 is gone", -1, d.find(1, 1, -1));
    for (int place = 18; place < 20; place++) {
      Check.due("a new page is empty", 0, d.sign(place, 1, 0));
      Check.due("without links", -1, d.link(place, 0, 0));
      Check.due("one header", 1, d.page(place, 6));
      Check.due("no flags", 0, d.page(place, 3));
    }
    Check.due("closings", 0, d.page(19, 5));
    int[] spoilt = Packets.header(1, 1, 0);
    spoilt[10] = Caption.bad('x');
    Packets.send(d, spoilt);
    Check.due("with no old header's text", 32, d.sign(19, 0, 8));
    Check.due("page 1 comes anew", 1, d.page(19, 6));
    Check.due("and never CLOSED", 0, d.page(19, 5));
  }

  private static void openPageGoes() {
    CaptionDesk d = new CaptionDesk();
    d.watch(2, 5);
    Packets.send(d, Packets.header(2, 5, 0));
    Packets.send(d, Packets.text(2, 1, "gone"));
    for (int i = 0; i < 20; i++) {
      Check.due("open", 0, d.open(2));
      Packets.send(d, Packets.header(1, i, 0));
    }
    Check.due("20", 20, d.pages());
    Check.due("no page is OPEN in 2", -1, d.open(2));
    Check.due("nor found", -1, d.find(2, 5, -1));
    d.tick(1);
    Check.due("it was not CLOSED", 0, d.cues());
    Packets.send(d, Packets.text(2, 1, "more"));
    Check.due("rows have no page", 1, d.nothing(2));
    Packets.send(d, Packets.header(2, 255, 0));
    d.tick(1);
    Check.due("nor is it CLOSED later", 0, d.cues());
  }

  private static void find() {
    CaptionDesk d = new CaptionDesk();
    Check.due("empty", -1, d.find(1, 1, -1));
    Packets.send(d, Packets.header(1, 1, 3));
    Packets.send(d, Packets.header(1, 1, 4));
    Packets.send(d, Packets.header(2, 1, 3));
    Check.due("subcode 3", 0, d.find(1, 1, 3));
    Check.due("subcode 4", 1, d.find(1, 1, 4));
    Check.due("the latest", 1, d.find(1, 1, -1));
    Check.due("magazine 2", 2, d.find(2, 1, -1));
    Check.due("subcode 5", -1, d.find(1, 1, 5));
    Check.due("number 2", -1, d.find(1, 2, -1));
    Check.due("magazine 9", -1, d.find(9, 1, 3));
    Check.due("magazine 0", -1, d.find(0, 1, 3));
    Check.due("subcode -2", -1, d.find(1, 1, -2));
    Check.due("far", -1, d.find(Integer.MIN_VALUE, Integer.MAX_VALUE, Integer.MIN_VALUE));
    Packets.send(d, Packets.header(1, 1, 3));
    Check.due("the latest header", 2, d.find(1, 1, -1));
    Check.due("4 is first now", 0, d.find(1, 1, 4));
  }
}
