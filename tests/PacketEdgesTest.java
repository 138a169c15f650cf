/**
 * Guarded bytes, the tape, and what packets bring (promises 6 to 9, 13, 14, and 2 PACKETS), sentence
 * by sentence: each boundary itself and both its sides. The sentence stands above its test.
 */
public final class PacketEdgesTest {
  private static final int NONE = -1;
  private static final int[] G = Packets.GUARDED;

  public static void main(String[] args) {
    everyGuardedByte();
    tapeFillsUp();
    refusedFeed();
    refusedPacket();
    highestFirst();
    first42();
    tapeIsEmptyThen();
    everyAddress();
    wrongAddress();
    nothingIndexes();
    rowsWithoutPage();
    otherRows();
    wrongHeaderBytes();
    headerValues();
    headerFlags();
    headerRow();
    eraseEdges();
    textSigns();
    textEdges();
    emptyRowBytes();
    linkKind();
    linkBytes();
    linkValues();
    linkEdges();
    signIndexes();
    linkIndexes();
    Check.end("PacketEdgesTest");
  }

  private static CaptionDesk withPage(int magazine, int number) {
    CaptionDesk d = new CaptionDesk();
    Packets.send(d, Packets.header(magazine, number, 0));
    return d;
  }

  private static boolean isSumOdd(int b, int... bits) {
    boolean odd = false;
    for (int bit : bits) {
      odd ^= (b >> bit - 1 & 1) == 1;
    }
    return odd;
  }

  /** The one of bits 1 .. 6, 8 that is in just these sums; bit 7 if it is in none of them. */
  private static int wrongBit(boolean inA, boolean inB, boolean inC) {
    String name = (inA ? "A" : "") + (inB ? "B" : "") + (inC ? "C" : "");
    return switch (name) {
      case "A" -> 1;
      case "ABC" -> 2;
      case "B" -> 3;
      case "BC" -> 4;
      case "C" -> 5;
      case "AC" -> 6;
      case "AB" -> 8;
      default -> 7;
    };
  }

  /** "A GUARDED byte with bits 1 .. 8 (1 the lowest) has four sums" and what follows, for each of the 256 bytes. */
  private static void everyGuardedByte() {
    for (int b = 0; b < 256; b++) {
      boolean a = isSumOdd(b, 8, 6, 2, 1);
      boolean bb = isSumOdd(b, 8, 4, 3, 2);
      boolean c = isSumOdd(b, 6, 5, 4, 2);
      boolean d = isSumOdd(b, 1, 2, 3, 4, 5, 6, 7, 8);
      int mended = d ? b : b ^ 1 << wrongBit(!a, !bb, !c) - 1;
      int value = (mended >> 1 & 1) + 2 * (mended >> 3 & 1) + 4 * (mended >> 5 & 1) + 8 * (mended >> 7 & 1);
      int want = !d ? 16 + value : a && bb && c ? value : NONE;
      CaptionDesk desk = new CaptionDesk();
      for (int far : new int[] {0, 0x100, 0x7FFFFF00, 0x80000000, -256}) {
        Check.due("guarded " + b, want, desk.guarded(b | far));
      }
    }
  }

  /** "how many it has. IllegalStateException when there would be more than 60." */
  private static void tapeFillsUp() {
    CaptionDesk d = new CaptionDesk();
    for (int count = 20; count <= 60; count += 20) {
      Check.due("the tape has", count, d.feed(-1, 0, 1, Integer.MAX_VALUE, Integer.MIN_VALUE));
    }
    for (int i = 0; i < 3; i++) {
      Check.throwing("80", IllegalStateException.class, () -> d.feed(0, 0, 0, 0, 0));
    }
  }

  private static void refusedFeed() {
    CaptionDesk d = withPage(1, 1);
    int[] bytes = Packets.rowOf(1, 3, 'k');
    for (int from = 0; from < 60; from += 20) {
      Packets.feed(d, bytes, from);
    }
    Check.throwing("a full tape", IllegalStateException.class, () -> d.feed(-1, -1, -1, -1, -1));
    Check.due("it is the old packet", 3, d.packet());
    Check.due("its first sign", 'k', d.sign(0, 3, 0));
    Check.due("its last sign", 'k', d.sign(0, 3, 39));
  }

  /** "IllegalStateException: it has fewer (it stays)." */
  private static void refusedPacket() {
    CaptionDesk d = withPage(1, 1);
    int[] bytes = Packets.rowOf(1, 3, 'k');
    Check.throwing("0 bytes", IllegalStateException.class, d::packet);
    Packets.feed(d, bytes, 0);
    Check.throwing("20 bytes", IllegalStateException.class, d::packet);
    Packets.feed(d, bytes, 20);
    Check.throwing("40 bytes", IllegalStateException.class, d::packet);
    Check.due("none was nothing", 0, d.nothing(0) + d.nothing(1) + d.nothing(2));
    Check.due("60 bytes: they stayed", 60, Packets.feed(d, bytes, 40));
    Check.due("a packet", 3, d.packet());
    for (int column = 0; column < 40; column++) {
      Check.due("its signs", 'k', d.sign(0, 3, column));
    }
  }

  /** "Twenty bytes come behind the tape, each number's highest one first" */
  private static void highestFirst() {
    CaptionDesk d = withPage(1, 1);
    int[] bytes = Packets.blank(1, 2);
    for (int i = 2; i < 42; i++) {
      bytes[i] = Caption.right(30 + 2 * i);
    }
    Packets.send(d, bytes);
    for (int i = 2; i < 42; i++) {
      Check.due("byte " + i, 30 + 2 * i, d.sign(0, 2, i - 2));
    }
  }

  /** "PACKETS are 42 bytes.", "The tape's first 42 bytes are a PACKET" */
  private static void first42() {
    CaptionDesk d = withPage(1, 1);
    int[] bytes = new int[60];
    java.util.Arrays.fill(bytes, Caption.right('z'));
    System.arraycopy(Packets.rowOf(1, 24, 'a'), 0, bytes, 0, 42);
    bytes[41] = Caption.right('!');
    Packets.send(d, bytes);
    Check.due("byte 40", 'a', d.sign(0, 24, 38));
    Check.due("byte 41", '!', d.sign(0, 24, 39));
    for (int column = 0; column < 40; column++) {
      Check.due("bytes 42 and on are no row's", 0, d.sign(0, 23, column));
    }
  }

  /** "and the tape is empty then": whatever the packet was. */
  private static void tapeIsEmptyThen() {
    CaptionDesk d = new CaptionDesk();
    int[][] packets = {Packets.header(1, 1, 0), Packets.text(1, 1, "x"), Packets.text(2, 1, "x"),
      Packets.blank(1, 31), Packets.with(Packets.blank(1, 1), 0, Packets.WRONG),
      Packets.with(Packets.header(1, 1, 0), 2, Packets.WRONG), Packets.header(1, 255, 0)};
    for (int[] bytes : packets) {
      Packets.send(d, bytes);
      Check.throwing("empty behind it", IllegalStateException.class, d::packet);
      Check.due("20", 20, d.feed(0, 0, 0, 0, 0));
      Check.due("40", 40, d.feed(0, 0, 0, 0, 0));
      Check.due("60", 60, d.feed(0, 0, 0, 0, 0));
      Check.due("a packet of zeros is row 2 of magazine 1", 2, d.packet());
    }
  }

  /** "values p, q: MAGAZINE p modulo 8 (8 for 0); ROW p / 8 + 2 q." */
  private static void everyAddress() {
    for (int p = 0; p < 16; p++) {
      int magazine = p % 8 == 0 ? 8 : p % 8;
      for (int q = 0; q < 16; q++) {
        CaptionDesk d = withPage(magazine, 1);
        int row = p / 8 + 2 * q;
        int[] bytes = Packets.header(1, 2, 0);
        bytes[0] = G[p];
        bytes[1] = G[q];
        bytes[12] = Caption.right('x');
        Check.due("row of " + p + ", " + q, row, Packets.send(d, bytes));
        Check.due("nothing", 0, d.nothing(0) + d.nothing(1) + d.nothing(2));
        Check.due("a page more by row 0 alone", row == 0 ? 2 : 1, d.pages());
        if (row == 0) {
          Check.due("in its MAGAZINE", 1, d.open(magazine));
        } else if (row <= 24) {
          Check.due("of its page", 'x', d.sign(0, row, 10));
        }
      }
    }
  }

  /** "WRONG: the packet is nothing."; "NONE: p or q is WRONG."; "what = 0 by p, q WRONG" */
  private static void wrongAddress() {
    for (int which = 1; which < 4; which++) {
      CaptionDesk d = withPage(1, 1);
      for (int[] bytes : new int[][] {Packets.header(1, 2, 0, 8), Packets.text(1, 1, "x"), Packets.blank(1, 31)}) {
        bytes[0] = (which & 1) != 0 ? Packets.WRONG : bytes[0];
        bytes[1] = (which & 2) != 0 ? Packets.WRONG : bytes[1];
        Check.due("WRONG " + which, NONE, Packets.send(d, bytes));
      }
      Check.due("each counts once", 3, d.nothing(0));
      Check.due("and nowhere else", 0, d.nothing(1) + d.nothing(2));
      Check.due("the page is OPEN still", 0, d.open(1));
      Check.due("its row is empty", 0, d.sign(0, 1, 0));
      Check.due("one page", 1, d.pages());
    }
    for (int i = 0; i < 2; i++) {
      for (int bit = 0; bit < 8; bit++) {
        CaptionDesk d = withPage(1, 1);
        int[] bytes = Packets.text(1, 9, "x");
        bytes[i] ^= 1 << bit;
        Check.due("mended", 9, Packets.send(d, bytes));
        Check.due("its sign", 'x', d.sign(0, 9, 0));
        Check.due("none is nothing", 0, d.nothing(0));
      }
    }
  }

  private static void nothingIndexes() {
    CaptionDesk d = new CaptionDesk();
    Check.indexes("nothing's what", 0, 2, d::nothing);
    for (int what = 0; what < 3; what++) {
      Check.due("none at first", 0, d.nothing(what));
    }
  }

  /** "2 rows 1 .. 24, 27 without an OPEN page": of the 32 rows just these, and just without one. */
  private static void rowsWithoutPage() {
    for (int row = 1; row < 32; row++) {
      boolean counts = row <= 24 || row == 27;
      CaptionDesk d = withPage(2, 1);
      int[] bytes = row == 27 ? Packets.links(1) : Packets.rowOf(1, row, 'x');
      Check.due("row " + row, row, Packets.send(d, bytes));
      Check.due("row " + row + " without", counts ? 1 : 0, d.nothing(2));
      bytes[0] = G[2 + row % 2 * 8];
      Packets.send(d, bytes);
      Check.due("row " + row + " with", counts ? 1 : 0, d.nothing(2));
      Packets.send(d, Packets.header(2, 255, 0));
      Packets.send(d, bytes);
      Check.due("row " + row + " when it is CLOSED", counts ? 2 : 0, d.nothing(2));
      Check.due("nowhere else", 0, d.nothing(0) + d.nothing(1));
    }
    CaptionDesk kinds = new CaptionDesk();
    Packets.send(kinds, Packets.with(Packets.links(1), 2, G[1]));
    Packets.send(kinds, Packets.with(Packets.links(1), 2, Packets.WRONG));
    Check.due("row 27 whatever its byte 2 is", 2, kinds.nothing(2));
  }

  /** "All other ROWS: nothing.": 25, 26, 28 .. 31 leave the OPEN page as it was. */
  private static void otherRows() {
    for (int row : new int[] {25, 26, 28, 29, 30, 31}) {
      CaptionDesk d = withPage(1, 1);
      Packets.send(d, Packets.rowOf(1, 24, 'y'));
      int[] bytes = Packets.links(1);
      bytes[0] = G[1 + row % 2 * 8];
      bytes[1] = G[row / 2];
      Check.due("row " + row, row, Packets.send(d, bytes));
      for (int r = 1; r < 25; r++) {
        Check.due("row " + r + " by " + row, r == 24 ? 'y' : 0, d.sign(0, r, 0));
      }
      Check.due("the header's row", 32, d.sign(0, 0, 39));
      Check.due("no links", NONE, d.link(0, 0, 0));
      Check.due("nothing counts", 0, d.nothing(0) + d.nothing(1) + d.nothing(2));
      Check.due("OPEN still", 0, d.open(1));
      Check.due("one header", 1, d.page(0, 6));
    }
  }

  /** "bytes 2 .. 9 GUARDED: v0 .. v7 (one WRONG: the packet is nothing)" */
  private static void wrongHeaderBytes() {
    for (int i = 2; i < 42; i++) {
      CaptionDesk d = withPage(1, 1);
      boolean guarded = i < 10;
      Check.due("answer", 0, Packets.send(d, Packets.with(Packets.header(1, 2, 0, 8), i, Packets.WRONG)));
      Check.due("WRONG byte " + i, guarded ? 1 : 0, d.nothing(1));
      Check.due("none of the others", 0, d.nothing(0) + d.nothing(2));
      Check.due("pages", guarded ? 1 : 2, d.pages());
      Check.due("CLOSED", guarded ? 0 : 1, d.page(0, 5));
      Check.due("OPEN", guarded ? 0 : 1, d.open(1));
    }
    CaptionDesk full = withPage(1, 1);
    Packets.send(full, Packets.with(Packets.header(1, 255, 0), 9, Packets.WRONG));
    Check.due("255 with a WRONG byte closes nothing", 0, full.open(1));
    Packets.send(full, Packets.with(Packets.header(1, 1, 0, 1), 9, Packets.WRONG));
    Check.due("nor is it a header", 1, full.page(0, 6));
    Check.due("nor are its FLAGS", 0, full.page(0, 3));
  }

  /** "NUMBER 16 v1 + v0", "SUBCODE v2 + 16 (v3 modulo 8) + 128 v4 + 2048 (v5 modulo 4)." */
  private static void headerValues() {
    int[] number = {1, 16, 0, 0, 0, 0, 0, 0};
    for (int i = 0; i < 8; i++) {
      for (int v = 0; v < 16; v++) {
        CaptionDesk d = new CaptionDesk();
        Packets.send(d, Packets.with(Packets.header(1, 0, 0), 2 + i, G[v]));
        Check.due("NUMBER by v" + i + " " + v, number[i] * v, d.page(0, 1));
        int subcode = i == 2 ? v : i == 3 ? 16 * (v % 8) : i == 4 ? 128 * v : i == 5 ? 2048 * (v % 4) : 0;
        Check.due("SUBCODE by v" + i + " " + v, subcode, d.page(0, 2));
        int flags = i == 3 ? v / 8 : i == 5 ? v / 4 * 2 : i == 7 ? v % 2 * 8 : 0;
        Check.due("FLAGS by v" + i + " " + v, flags, d.page(0, 3));
      }
    }
    CaptionDesk d = new CaptionDesk();
    Packets.send(d, Packets.header(8, 254, 8191, 15));
    Check.due("the greatest NUMBER", 254, d.page(0, 1));
    Check.due("the greatest SUBCODE", 8191, d.page(0, 2));
    Check.due("all FLAGS", 15, d.page(0, 3));
  }

  /** "FLAGS: 1 ERASE", "2 NEWS", "4 SUBTITLE", "8 SERIAL"; "3 FLAGS of its latest header" */
  private static void headerFlags() {
    CaptionDesk d = new CaptionDesk();
    for (int flags = 15; flags >= 0; flags--) {
      Packets.send(d, Packets.header(3, 100, 77, flags));
      Check.due("FLAGS " + flags, flags, d.page(0, 3));
      Check.due("one page", 1, d.pages());
    }
    Packets.send(d, Packets.header(3, 101, 77, 6));
    Check.due("another page's header does not count", 0, d.page(0, 3));
  }

  /** "Its row 0: 8 times 32, then bytes 10 .. 41 as text." */
  private static void headerRow() {
    CaptionDesk d = new CaptionDesk();
    int[] bytes = Packets.header(1, 1, 0);
    for (int i = 10; i < 42; i++) {
      bytes[i] = Caption.right(40 + i);
    }
    Packets.send(d, bytes);
    for (int column = 0; column < 40; column++) {
      Check.due("column " + column, column < 8 ? 32 : 42 + column, d.sign(0, 0, column));
    }
    int[] spoilt = Packets.header(1, 1, 0, 1);
    for (int i = 10; i < 42; i++) {
      spoilt[i] = Caption.bad('z');
    }
    Packets.send(d, spoilt);
    for (int column = 0; column < 40; column++) {
      Check.due("what was there stays, by ERASE too", column < 8 ? 32 : 42 + column, d.sign(0, 0, column));
    }
  }

  /** "ERASE: rows 1 .. 24 and LINKS are empty before." */
  private static void eraseEdges() {
    for (int flags = 0; flags < 16; flags++) {
      CaptionDesk d = withPage(1, 1);
      for (int row : new int[] {1, 2, 23, 24}) {
        Packets.send(d, Packets.rowOf(1, row, 'x'));
      }
      Packets.send(d, Packets.links(1));
      Packets.send(d, Packets.withText(Packets.header(1, 1, 0, flags), 10, "new"));
      boolean erased = flags % 2 == 1;
      for (int row : new int[] {1, 2, 23, 24}) {
        Check.due("row " + row + " by " + flags, erased ? 0 : 'x', d.sign(0, row, 0));
        Check.due("its end", erased ? 0 : 'x', d.sign(0, row, 39));
      }
      for (int k = 0; k < 6; k++) {
        Check.due("link " + k + " by " + flags, erased ? NONE : 1, d.link(0, k, 0));
      }
      Check.due("row 0 comes behind it", 'n', d.sign(0, 0, 8));
      Packets.send(d, Packets.with(Packets.rowOf(1, 1, 'y'), 2, Caption.bad('z')));
      Check.due("an emptied row is empty", erased ? 32 : 'x', d.sign(0, 1, 0));
    }
    CaptionDesk other = withPage(1, 1);
    Packets.send(other, Packets.rowOf(1, 1, 'x'));
    Packets.send(other, Packets.header(1, 1, 1, 1));
    Check.due("another page's rows stay", 'x', other.sign(0, 1, 0));
  }

  /** "Text: a RIGHT byte's SIGN; where it is not RIGHT, what was there stays" */
  private static void textSigns() {
    for (int sign = 0; sign < 128; sign++) {
      CaptionDesk d = withPage(1, 1);
      Packets.send(d, Packets.rowOf(1, 5, sign));
      Check.due("sign " + sign, sign, d.sign(0, 5, 7));
      int[] bytes = Packets.rowOf(1, 5, 'n');
      bytes[9] = Caption.bad(sign);
      Packets.send(d, bytes);
      Check.due("it stays: " + sign, sign, d.sign(0, 5, 7));
      Check.due("before it", 'n', d.sign(0, 5, 6));
      Check.due("behind it", 'n', d.sign(0, 5, 8));
    }
  }

  /** "ROW 1 .. 24: of the page that is OPEN in its MAGAZINE", "its row: bytes 2 .. 41 as text." */
  private static void textEdges() {
    for (int row : new int[] {1, 2, 12, 23, 24}) {
      CaptionDesk d = withPage(1, 1);
      Packets.send(d, Packets.header(2, 1, 0));
      int[] bytes = Packets.rowOf(1, row, 'm');
      bytes[2] = Caption.right('a');
      bytes[41] = Caption.right('z');
      Packets.send(d, bytes);
      Check.due("byte 2", 'a', d.sign(0, row, 0));
      Check.due("byte 3", 'm', d.sign(0, row, 1));
      Check.due("byte 40", 'm', d.sign(0, row, 38));
      Check.due("byte 41", 'z', d.sign(0, row, 39));
      Check.due("the row above", row == 1 ? 32 : 0, d.sign(0, row - 1, 39));
      Check.due("not of MAGAZINE 2", 0, d.sign(1, row, 0));
      if (row < 24) {
        Check.due("the row below", 0, d.sign(0, row + 1, 0));
      }
    }
  }

  /** "(32 in an empty row)"; "0 in an empty row" */
  private static void emptyRowBytes() {
    CaptionDesk d = withPage(1, 1);
    Check.due("an empty row", 0, d.sign(0, 1, 0));
    int[] bytes = Packets.blank(1, 1);
    for (int i = 2; i < 42; i++) {
      bytes[i] = Caption.bad('x');
    }
    Packets.send(d, bytes);
    for (int column = 0; column < 40; column++) {
      Check.due("not RIGHT in an empty row", 32, d.sign(0, 1, column));
    }
    Packets.send(d, Packets.rowOf(1, 1, 0));
    Packets.send(d, bytes);
    Check.due("signs 0 are not an empty row", 0, d.sign(0, 1, 20));
  }

  /** "ROW 27: byte 2 GUARDED, WRONG or not 0: nothing" */
  private static void linkKind() {
    for (int kind = 0; kind < 256; kind++) {
      CaptionDesk d = withPage(1, 1);
      int value = d.guarded(kind);
      Check.due("row 27", 27, Packets.send(d, Packets.with(Packets.links(1), 2, kind)));
      boolean isZero = value == 0 || value == 16;
      Check.due("links by byte 2 " + kind, isZero ? 1 : NONE, d.link(0, 0, 0));
      Check.due("the last one", isZero ? 0 : NONE, d.link(0, 5, 2));
      Check.due("it is counted nowhere", 0, d.nothing(0) + d.nothing(1) + d.nothing(2));
    }
  }

  /** "A LINK with a WRONG byte stays what it was.": each of the 36 bytes, and those behind them. */
  private static void linkBytes() {
    for (int i = 3; i < 42; i++) {
      CaptionDesk d = withPage(1, 1);
      int[] old = Packets.links(1);
      for (int k = 0; k < 6; k++) {
        Packets.withLink(old, k, 1, 1, 1, 9, 1, 5);
      }
      Packets.send(d, Packets.with(Packets.links(1), i, Packets.WRONG));
      for (int k = 0; k < 6; k++) {
        Check.due("without before", k == (i - 3) / 6 ? NONE : 0, d.link(0, k, 1));
      }
      Packets.send(d, old);
      Packets.send(d, Packets.with(Packets.links(1), i, Packets.WRONG));
      for (int k = 0; k < 6; k++) {
        boolean stays = k == (i - 3) / 6;
        Check.due("MAGAZINE of " + k + " by byte " + i, stays ? 2 : 1, d.link(0, k, 0));
        Check.due("NUMBER of " + k + " by byte " + i, stays ? 17 : 0, d.link(0, k, 1));
        Check.due("SUBCODE of " + k + " by byte " + i, stays ? 2193 : 0, d.link(0, k, 2));
      }
    }
  }

  /** "number 16 b + a, and c, d, e, f as v2 .. v5 above"; the MAGAZINE by d / 8 and f / 4 */
  private static void linkValues() {
    for (int i = 0; i < 6; i++) {
      for (int v = 0; v < 16; v++) {
        CaptionDesk d = withPage(8, 1);
        int k = (i + v) % 6;
        int[] values = new int[6];
        values[i] = v;
        Packets.send(d, Packets.withLink(Packets.links(8), k, values));
        int magazine = i == 3 ? v / 8 : i == 5 ? 2 * (v / 4) : 0;
        Check.due("MAGAZINE", magazine == 0 ? 8 : magazine, d.link(0, k, 0));
        Check.due("NUMBER", i == 0 ? v : i == 1 ? 16 * v : 0, d.link(0, k, 1));
        int subcode = i == 2 ? v : i == 3 ? 16 * (v % 8) : i == 4 ? 128 * v : i == 5 ? 2048 * (v % 4) : 0;
        Check.due("SUBCODE", subcode, d.link(0, k, 2));
      }
    }
  }

  /** "that of the packet xored with (d / 8) + 2 (f / 4) (modulo 8; 8 for 0)" */
  private static void linkEdges() {
    for (int magazine = 1; magazine <= 8; magazine++) {
      for (int x = 0; x < 8; x++) {
        CaptionDesk d = withPage(magazine, 1);
        Packets.send(d, Packets.withLink(Packets.links(magazine), 5, 15, 15, 15, x % 2 * 8 + 7, 15, x / 2 * 4 + 3));
        int want = (magazine % 8 ^ x) == 0 ? 8 : magazine % 8 ^ x;
        Check.due("MAGAZINE " + magazine + " with " + x, want, d.link(0, 5, 0));
        Check.due("the greatest NUMBER", 255, d.link(0, 5, 1));
        Check.due("the greatest SUBCODE", 8191, d.link(0, 5, 2));
        Check.due("the other links", magazine, d.link(0, 4, 0));
      }
    }
  }

  /** "the sign at a row 0 .. 24, column 0 .. 39" */
  private static void signIndexes() {
    CaptionDesk d = new CaptionDesk();
    Check.outside("an empty store", () -> d.sign(0, 0, 0));
    Packets.send(d, Packets.header(1, 1, 0));
    Packets.send(d, Packets.header(1, 2, 0));
    Check.indexes("sign's place", 0, 1, i -> d.sign(i, 24, 39));
    Check.indexes("sign's row", 0, 24, i -> d.sign(1, i, 39));
    Check.indexes("sign's column", 0, 39, i -> d.sign(1, 24, i));
  }

  /** "LINK k (0 .. 5): what = 0 MAGAZINE, 1 NUMBER, 2 SUBCODE; NONE without." */
  private static void linkIndexes() {
    CaptionDesk d = new CaptionDesk();
    Check.outside("an empty store", () -> d.link(0, 0, 0));
    Packets.send(d, Packets.header(1, 1, 0));
    Packets.send(d, Packets.header(1, 2, 0));
    Check.indexes("link's place", 0, 1, i -> d.link(i, 5, 2));
    Check.indexes("link's k", 0, 5, i -> d.link(1, i, 2));
    Check.indexes("link's what", 0, 2, i -> d.link(1, 5, i));
    for (int k = 0; k < 6; k++) {
      for (int what = 0; what < 3; what++) {
        Check.due("without", NONE, d.link(1, k, what));
      }
    }
  }
}
