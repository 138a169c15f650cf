import java.util.Arrays;

/** Packets for a desk, byte by byte. */
final class Packets {
  /** The GUARDED bytes of the values 0 .. 15. */
  static final int[] GUARDED = {
    0x15, 0x02, 0x49, 0x5E, 0x64, 0x73, 0x38, 0x2F, 0xD0, 0xC7, 0x8C, 0x9B, 0xA1, 0xB6, 0xFD, 0xEA
  };
  /** A byte with two wrong bits. */
  static final int WRONG = 0x15 ^ 0x03;

  private Packets() {}

  static int[] blank(int magazine, int row) {
    int[] bytes = new int[42];
    Arrays.fill(bytes, Caption.right(32));
    bytes[0] = GUARDED[magazine % 8 + row % 2 * 8];
    bytes[1] = GUARDED[row / 2];
    return bytes;
  }

  static int[] header(int magazine, int number, int subcode) {
    return header(magazine, number, subcode, 0);
  }

  /** FLAGS as the document numbers them. */
  static int[] header(int magazine, int number, int subcode, int flags) {
    int[] bytes = blank(magazine, 0);
    bytes[2] = GUARDED[number % 16];
    bytes[3] = GUARDED[number / 16];
    bytes[4] = GUARDED[subcode % 16];
    bytes[5] = GUARDED[subcode / 16 % 8 + ((flags & 1) != 0 ? 8 : 0)];
    bytes[6] = GUARDED[subcode / 128 % 16];
    bytes[7] = GUARDED[subcode / 2048 + ((flags & 2) != 0 ? 4 : 0) + ((flags & 4) != 0 ? 8 : 0)];
    bytes[8] = GUARDED[0];
    bytes[9] = GUARDED[(flags & 8) != 0 ? 1 : 0];
    return bytes;
  }

  static int[] text(int magazine, int row, String text) {
    return withText(blank(magazine, row), 2, text);
  }

  static int[] withText(int[] bytes, int from, String text) {
    for (int i = 0; i < text.length(); i++) {
      bytes[from + i] = Caption.right(text.charAt(i));
    }
    return bytes;
  }

  static int[] links(int magazine) {
    int[] bytes = blank(magazine, 27);
    for (int i = 2; i < 39; i++) {
      bytes[i] = GUARDED[0];
    }
    return bytes;
  }

  static int[] withLink(int[] bytes, int k, int... values) {
    for (int i = 0; i < 6; i++) {
      bytes[3 + 6 * k + i] = GUARDED[values[i]];
    }
    return bytes;
  }

  static int[] with(int[] bytes, int i, int b) {
    bytes[i] = b;
    return bytes;
  }

  /** A packet of a text row whose forty bytes all have the same sign. */
  static int[] rowOf(int magazine, int row, int sign) {
    int[] bytes = blank(magazine, row);
    Arrays.fill(bytes, 2, 42, Caption.right(sign));
    return bytes;
  }

  static int number(int[] bytes, int i) {
    int n = 0;
    for (int k = 0; k < 4; k++) {
      n = n << 8 | (i + k < bytes.length ? bytes[i + k] : 0);
    }
    return n;
  }

  static int feed(CaptionDesk desk, int[] bytes, int from) {
    return desk.feed(number(bytes, from), number(bytes, from + 4), number(bytes, from + 8),
        number(bytes, from + 12), number(bytes, from + 16));
  }

  static int send(CaptionDesk desk, int[] bytes) {
    feed(desk, bytes, 0);
    feed(desk, bytes, 20);
    feed(desk, bytes, 40);
    return desk.packet();
  }
}
