/**
 * Captions that come in pairs of bytes, pages that come in packets, and the cues that
 * both of them make as time goes on. The words in capitals are those of the document.
 */
public final class CaptionDesk {
  public static final int NONE = -1;

  private static final int FIELDS = 2;
  private static final int CHANNELS = 4;
  private static final int ROWS = 15;
  private static final int COLUMNS = 32;
  private static final int NO_MODE = 0;
  private static final int POP = 1;
  private static final int ROLL = 2;
  private static final int PAINT = 3;
  private static final int TEXT = 4;
  private static final int PASSED = 8;
  private static final int LETTERS = 9;
  private static final int SPACE = 32;
  private static final int UNDERLINED = 8;

  private static final int TAPE_LIMIT = 60;
  private static final int PACKET_BYTES = 42;
  private static final int MAGAZINES = 8;
  private static final int NO_PAGE_NUMBER = 255;
  private static final int STORE_LIMIT = 20;
  private static final int PAGE_ROWS = 25;
  private static final int PAGE_COLUMNS = 40;
  private static final int LINKS = 6;
  private static final int LINK_PARTS = 3;
  private static final int ERASE = 1;
  private static final int NEWS = 2;
  private static final int SUBTITLE = 4;
  private static final int SERIAL = 8;

  private static final int SOURCES = 5;
  private static final int PAGE_SOURCE = 4;
  private static final int CUE_LIMIT = 60;
  private static final int LINES_LIMIT = 400;
  private static final int LINE_END = 10;
  private static final int LONGEST_TICK = 100000;

  /** The upper one of the two rows that a ROW code can name, by x - 16. */
  private static final int[] CODE_ROWS = {11, 1, 3, 12, 14, 5, 7, 9};

  private static final int SUM_A = 0xA3;
  private static final int SUM_B = 0x8E;
  private static final int SUM_C = 0x3A;
  private static final int SUM_D = 0xFF;
  /** The bit to turn round, by which sums are even: 1 for A, 2 for B, 4 for C; none of them: bit 7. */
  private static final int[] WRONG_BITS = {0x40, 0x01, 0x04, 0x80, 0x10, 0x20, 0x08, 0x02};

  private final Channel[] channels = new Channel[CHANNELS];
  private final int[] fieldChannels = {NONE, NONE};
  private final int[] repeatableCodes = {NONE, NONE};

  private final int[] tape = new int[TAPE_LIMIT];
  private int tapeLength;
  private final int[] values = new int[8];
  private final int[] nothings = new int[3];
  private final Store store = new Store();

  private final Watched watched = new Watched();
  private final Lines lines = new Lines();
  private final Cue[] cueRow = new Cue[CUE_LIMIT];
  private int cueCount;
  private final int[] endlessCues = {NONE, NONE, NONE, NONE, NONE};
  private int time;

  public CaptionDesk() {
    for (int i = 0; i < CHANNELS; i++) {
      channels[i] = new Channel();
    }
  }

  // ---- 1 PAIRS

  public int pair(int field, int a, int b) throws IndexOutOfBoundsException {
    if (isOutside(field, FIELDS)) {
      throw new IndexOutOfBoundsException("field");
    }
    int first = a & 255;
    int second = b & 255;
    if (!isCode(first, second)) {
      repeatableCodes[field] = NONE;
      return takeLetters(field, first, second) ? LETTERS : NONE;
    }
    int code = (first & 127) * 128 + (second & 127);
    if (code == repeatableCodes[field]) {
      repeatableCodes[field] = NONE;
      return PASSED;
    }
    repeatableCodes[field] = code;
    return takeCode(field, first & 127, second & 127);
  }

  public int cell(int channel, int screen, int row, int column, int what)
      throws IndexOutOfBoundsException {
    if (isOutside(channel, CHANNELS) || isOutside(screen, 2) || isOutside(what, 2)) {
      throw new IndexOutOfBoundsException("channel, screen or what");
    }
    if (isOutside(row - 1, ROWS) || isOutside(column, COLUMNS)) {
      throw new IndexOutOfBoundsException("row or column");
    }
    Channel c = channels[channel];
    Screen s = screen == 0 ? c.shown : c.hidden;
    return what == 0 ? s.letterAt(row, column) : s.lookAt(row, column);
  }

  public int state(int channel, int what) throws IndexOutOfBoundsException {
    if (isOutside(channel, CHANNELS) || isOutside(what, 5)) {
      throw new IndexOutOfBoundsException("channel or what");
    }
    Channel c = channels[channel];
    switch (what) {
      case 0:
        return c.mode;
      case 1:
        return c.row;
      case 2:
        return c.column;
      case 3:
        return c.look;
      default:
        return c.depth;
    }
  }

  public int channel(int field) throws IndexOutOfBoundsException {
    if (isOutside(field, FIELDS)) {
      throw new IndexOutOfBoundsException("field");
    }
    return fieldChannels[field];
  }

  private int takeCode(int field, int first, int second) {
    int number = 2 * field + ((first & 8) != 0 ? 1 : 0);
    fieldChannels[field] = number;
    channels[number].obey(first & ~8, second);
    return number;
  }

  private boolean takeLetters(int field, int first, int second) {
    int number = fieldChannels[field];
    if (isOutside(number, CHANNELS) || !isRight(first)) {
      return false;
    }
    int sign = first & 127;
    if (sign >= SPACE) {
      channels[number].put(sign);
      takeSecondLetter(channels[number], second);
      return true;
    }
    if (sign == 0 && isRight(second) && (second & 127) >= SPACE) {
      channels[number].put(second & 127);
      return true;
    }
    return false;
  }

  private static void takeSecondLetter(Channel c, int second) {
    if (!isRight(second)) {
      c.put(127);
    } else if ((second & 127) >= SPACE) {
      c.put(second & 127);
    }
  }

  private static boolean isCode(int first, int second) {
    int sign = first & 127;
    return isRight(first) && sign >= 16 && sign < 32 && isRight(second) && (second & 127) >= SPACE;
  }

  private static boolean isRight(int b) {
    return (Integer.bitCount(b & 255) & 1) == 1;
  }

  private static boolean isOdd(int b, int mask) {
    return (Integer.bitCount(b & mask) & 1) == 1;
  }

  private static boolean isOutside(int i, int count) {
    return i < 0 || i >= count;
  }

  // ---- 2 PACKETS

  public int guarded(int b) {
    return mend(b & 255);
  }

  public int feed(int a, int b, int c, int d, int e) throws IllegalStateException {
    if (tapeLength + 20 > TAPE_LIMIT) {
      throw new IllegalStateException("the tape is full");
    }
    addToTape(a);
    addToTape(b);
    addToTape(c);
    addToTape(d);
    addToTape(e);
    return tapeLength;
  }

  public int packet() throws IllegalStateException {
    if (tapeLength < PACKET_BYTES) {
      throw new IllegalStateException("the tape is too short");
    }
    tapeLength = 0;
    int p = valueAt(0);
    int q = valueAt(1);
    if (p == NONE || q == NONE) {
      nothings[0]++;
      return NONE;
    }
    int row = p / 8 + 2 * q;
    takeRow(magazineOf(p), row);
    return row;
  }

  public int nothing(int what) throws IndexOutOfBoundsException {
    if (isOutside(what, 3)) {
      throw new IndexOutOfBoundsException("what");
    }
    return nothings[what];
  }

  public int pages() {
    return store.count;
  }

  public int find(int magazine, int number, int subcode) {
    return store.placeOf(magazine, number, subcode);
  }

  public int page(int place, int what) throws IndexOutOfBoundsException {
    Page p = store.pageAt(place);
    if (p == null || isOutside(what, 7)) {
      throw new IndexOutOfBoundsException("place or what");
    }
    switch (what) {
      case 0:
        return p.magazine;
      case 1:
        return p.number;
      case 2:
        return p.subcode;
      case 3:
        return p.flags;
      case 4:
        return p.isOpen ? 1 : 0;
      case 5:
        return p.closings;
      default:
        return p.headers;
    }
  }

  public int sign(int place, int row, int column) throws IndexOutOfBoundsException {
    Page p = store.pageAt(place);
    if (p == null || isOutside(row, PAGE_ROWS) || isOutside(column, PAGE_COLUMNS)) {
      throw new IndexOutOfBoundsException("place, row or column");
    }
    return p.text.signAt(row, column);
  }

  public int link(int place, int k, int what) throws IndexOutOfBoundsException {
    Page p = store.pageAt(place);
    if (p == null || isOutside(k, LINKS) || isOutside(what, LINK_PARTS)) {
      throw new IndexOutOfBoundsException("place, link or what");
    }
    return p.links[LINK_PARTS * k + what];
  }

  public int open(int magazine) throws IndexOutOfBoundsException {
    if (isOutside(magazine - 1, MAGAZINES)) {
      throw new IndexOutOfBoundsException("magazine");
    }
    return store.placeOfOpen(magazine);
  }

  private static int mend(int b) {
    int even = (isOdd(b, SUM_A) ? 0 : 1) + (isOdd(b, SUM_B) ? 0 : 2) + (isOdd(b, SUM_C) ? 0 : 4);
    if (!isOdd(b, SUM_D)) {
      return 16 + guardedValue(b ^ WRONG_BITS[even]);
    }
    return even == 0 ? guardedValue(b) : NONE;
  }

  private static int guardedValue(int b) {
    return (b >> 1 & 1) + (b >> 2 & 2) + (b >> 3 & 4) + (b >> 4 & 8);
  }

  private static int magazineOf(int value) {
    int m = value & 7;
    return m == 0 ? 8 : m;
  }

  private static int subcodeOf(int v2, int v3, int v4, int v5) {
    return v2 + 16 * (v3 & 7) + 128 * v4 + 2048 * (v5 & 3);
  }

  private void addToTape(int number) {
    for (int shift = 24; shift >= 0 && tapeLength < TAPE_LIMIT; shift -= 8) {
      tape[tapeLength] = number >> shift & 255;
      tapeLength++;
    }
  }

  /** The value of the GUARDED byte at a place of the tape; NONE if it is WRONG. */
  private int valueAt(int i) {
    if (isOutside(i, PACKET_BYTES)) {
      return NONE;
    }
    int mended = mend(tape[i]);
    return mended == NONE ? NONE : mended & 15;
  }

  private void takeRow(int magazine, int row) {
    if (row == 0) {
      takeHeader(magazine);
      return;
    }
    if (row > 24 && row != 27) {
      return;
    }
    Page p = store.pageAt(store.placeOfOpen(magazine));
    if (p == null) {
      nothings[2]++;
    } else if (row == 27) {
      takeLinks(p, magazine);
    } else {
      p.text.fill(row, 0, tape, 2);
    }
  }

  private void takeHeader(int magazine) {
    if (!readValues(2, 8)) {
      nothings[1]++;
      return;
    }
    boolean serial = (values[7] & 1) == 1;
    for (int m = 1; m <= MAGAZINES; m++) {
      if (serial || m == magazine) {
        closePage(m);
      }
    }
    int number = 16 * values[1] + values[0];
    if (number == NO_PAGE_NUMBER) {
      return;
    }
    int subcode = subcodeOf(values[2], values[3], values[4], values[5]);
    openPage(store.bringToEnd(magazine, number, subcode));
  }

  private void closePage(int magazine) {
    Page p = store.pageAt(store.placeOfOpen(magazine));
    if (p == null) {
      return;
    }
    p.isOpen = false;
    p.closings++;
    watched.see(p);
  }

  /** The header whose values were read last makes this page the OPEN one. */
  private void openPage(Page p) {
    p.isOpen = true;
    p.headers++;
    p.flags = ((values[3] & 8) != 0 ? ERASE : 0) + ((values[5] & 4) != 0 ? NEWS : 0)
        + ((values[5] & 8) != 0 ? SUBTITLE : 0) + ((values[7] & 1) != 0 ? SERIAL : 0);
    if ((p.flags & ERASE) != 0) {
      p.text.eraseRows(1);
      p.eraseLinks();
    }
    p.text.fill(0, 8, tape, 10);
  }

  private void takeLinks(Page p, int magazine) {
    if (valueAt(2) != 0) {
      return;
    }
    for (int k = 0; k < LINKS; k++) {
      if (readValues(3 + 6 * k, 6)) {
        int other = values[3] / 8 + 2 * (values[5] / 4);
        int at = LINK_PARTS * k;
        p.links[at] = magazineOf(magazine ^ other);
        p.links[at + 1] = 16 * values[1] + values[0];
        p.links[at + 2] = subcodeOf(values[2], values[3], values[4], values[5]);
      }
    }
  }

  /** Whether none of so many GUARDED bytes is WRONG; if so, their values are in the row of values. */
  private boolean readValues(int from, int count) {
    for (int i = 0; i < count && i < values.length; i++) {
      int v = valueAt(from + i);
      if (v == NONE) {
        return false;
      }
      values[i] = v;
    }
    return true;
  }

  // ---- 3 CUES

  public int watch(int magazine, int number) throws IllegalArgumentException {
    if (isOutside(magazine - 1, MAGAZINES) || isOutside(number, NO_PAGE_NUMBER)) {
      throw new IllegalArgumentException("magazine or number");
    }
    watched.begin(magazine, number);
    return 1;
  }

  public int tick(int n) throws IllegalArgumentException {
    if (n < 1 || n > LONGEST_TICK) {
      throw new IllegalArgumentException("n");
    }
    time += n;
    for (int source = 0; source < SOURCES; source++) {
      readLines(source);
      endCue(source);
      beginCue(source);
    }
    return time;
  }

  public int cues() {
    return cueCount;
  }

  public int cue(int i, int what) throws IndexOutOfBoundsException {
    Cue c = cueAt(i);
    if (c == null || isOutside(what, 4)) {
      throw new IndexOutOfBoundsException("cue or what");
    }
    switch (what) {
      case 0:
        return c.source;
      case 1:
        return c.begin;
      case 2:
        return c.end;
      default:
        return c.bytes.length;
    }
  }

  public int line(int i, int k) throws IndexOutOfBoundsException {
    Cue c = cueAt(i);
    if (c == null || isOutside(k, c.bytes.length)) {
      throw new IndexOutOfBoundsException("cue or byte");
    }
    return c.bytes[k];
  }

  private Cue cueAt(int i) {
    return isOutside(i, cueCount) || isOutside(i, CUE_LIMIT) ? null : cueRow[i];
  }

  private void readLines(int source) {
    lines.length = 0;
    if (source == PAGE_SOURCE) {
      watched.addTo(lines);
    } else {
      channels[source].shown.addTo(lines);
    }
  }

  private void endCue(int source) {
    Cue c = cueAt(endlessCues[source]);
    if (c != null && !lines.areThose(c.bytes)) {
      c.end = time;
      endlessCues[source] = NONE;
    }
  }

  private void beginCue(int source) {
    if (endlessCues[source] == NONE && lines.length > 0 && cueCount < CUE_LIMIT) {
      cueRow[cueCount] = new Cue(source, time, lines.copied());
      endlessCues[source] = cueCount;
      cueCount++;
    }
  }

  /** One screen of a channel; its rows are 1 .. 15. */
  private static final class Screen {
    private final int[] letters = new int[ROWS * COLUMNS];
    private final int[] looks = new int[ROWS * COLUMNS];

    int letterAt(int row, int column) {
      return isCell(row, column) ? letters[indexOf(row, column)] : 0;
    }

    int lookAt(int row, int column) {
      return isCell(row, column) ? looks[indexOf(row, column)] : 0;
    }

    void write(int row, int column, int letter, int look) {
      if (isCell(row, column)) {
        letters[indexOf(row, column)] = letter;
        looks[indexOf(row, column)] = look;
      }
    }

    void eraseFrom(int row, int column) {
      if (isCell(row, column)) {
        eraseCells(indexOf(row, column), indexOf(row + 1, 0));
      }
    }

    void eraseRowsAbove(int row) {
      eraseCells(0, indexOf(row, 0));
    }

    void eraseAll() {
      eraseCells(0, ROWS * COLUMNS);
    }

    /** The row goes to another place and leaves an empty row behind. */
    void moveRow(int from, int to) {
      if (from == to || !isCell(from, 0) || !isCell(to, 0)) {
        return;
      }
      int source = indexOf(from, 0);
      System.arraycopy(letters, source, letters, indexOf(to, 0), COLUMNS);
      System.arraycopy(looks, source, looks, indexOf(to, 0), COLUMNS);
      eraseCells(source, source + COLUMNS);
    }

    void addTo(Lines l) {
      for (int r = 1; r <= ROWS; r++) {
        l.addRow(letters, indexOf(r, 0), COLUMNS);
      }
    }

    private void eraseCells(int from, int to) {
      for (int i = from; i >= 0 && i < to && i < ROWS * COLUMNS; i++) {
        letters[i] = 0;
        looks[i] = 0;
      }
    }

    private static boolean isCell(int row, int column) {
      return row >= 1 && row <= ROWS && column >= 0 && column < COLUMNS;
    }

    private static int indexOf(int row, int column) {
      return (row - 1) * COLUMNS + column;
    }
  }

  /** A channel: its two screens, and how and where the next letter comes. */
  private static final class Channel {
    private Screen shown = new Screen();
    private Screen hidden = new Screen();
    private int mode = NO_MODE;
    private int row = 1;
    private int column = 0;
    private int look = 0;
    private int depth = 2;

    void put(int letter) {
      Screen s = putScreen();
      if (s == null) {
        return;
      }
      s.write(row, Math.min(column, COLUMNS - 1), letter, look);
      column = Math.min(column + 1, COLUMNS);
    }

    void obey(int x, int y) {
      if (y >= 64) {
        if (x != 16 || (y & 32) == 0) {
          goToRow(x, y);
        }
      } else if (x == 17) {
        obeyLookOrSpecial(y);
      } else if (x == 18 || x == 19) {
        column = Math.max(column - 1, 0);
        put(272 + 32 * (x - 18) + y - 32);
      } else if (x == 20 || x == 21) {
        obeyControl(y - 32);
      } else if (x == 23 && y >= 33 && y <= 35) {
        skipColumns(y - 32);
      }
    }

    private Screen putScreen() {
      if (mode == POP) {
        return hidden;
      }
      return mode == ROLL || mode == PAINT ? shown : null;
    }

    private void goToRow(int x, int y) {
      if (mode == NO_MODE || mode == TEXT || isOutside(x - 16, CODE_ROWS.length)) {
        return;
      }
      int newRow = CODE_ROWS[x - 16] + ((y & 32) != 0 ? 1 : 0);
      if (mode == ROLL) {
        newRow = Math.max(newRow, depth);
        moveRolledRows(newRow);
      }
      row = newRow;
      int k = y / 2 % 16;
      look = (k < 8 ? k : 0) + ((y & 1) != 0 ? UNDERLINED : 0);
      column = k < 8 ? 0 : 4 * (k - 8);
    }

    private void moveRolledRows(int newRow) {
      if (newRow == row) {
        return;
      }
      // The end that moves ahead goes first, so that no row is written over before it has moved.
      for (int i = 0; i < depth; i++) {
        int up = newRow < row ? depth - 1 - i : i;
        shown.moveRow(row - up, newRow - up);
      }
    }

    private void obeyLookOrSpecial(int y) {
      if (y >= 48) {
        put(256 + y - 48);
        return;
      }
      look = y / 2 % 8 + ((y & 1) != 0 ? UNDERLINED : 0);
      put(SPACE);
    }

    private void skipColumns(int count) {
      if (column < COLUMNS) {
        column = Math.min(column + count, COLUMNS - 1);
      }
    }

    private void obeyControl(int what) {
      switch (what) {
        case 0:
          mode = POP;
          break;
        case 1:
          eraseBack();
          break;
        case 4:
          eraseOn();
          break;
        case 5:
        case 6:
        case 7:
          beginRoll(what - 3);
          break;
        case 9:
          mode = PAINT;
          break;
        case 10:
        case 11:
          mode = TEXT;
          break;
        case 12:
          shown.eraseAll();
          break;
        case 13:
          rollUp();
          break;
        case 14:
          hidden.eraseAll();
          break;
        case 15:
          changeScreens();
          break;
        default:
          break;
      }
    }

    private void eraseBack() {
      Screen s = putScreen();
      if (s != null && column > 0) {
        column--;
        s.write(row, column, 0, 0);
      }
    }

    private void eraseOn() {
      Screen s = putScreen();
      // The document's "(likewise)" takes over both exceptions of the code before, column 0 too.
      if (s != null && column > 0) {
        s.eraseFrom(row, column);
      }
    }

    private void beginRoll(int newDepth) {
      depth = newDepth;
      if (mode == ROLL) {
        shown.eraseRowsAbove(row - depth + 1);
        row = Math.max(row, depth);
      } else {
        shown.eraseAll();
        hidden.eraseAll();
        row = ROWS;
      }
      mode = ROLL;
      column = 0;
      look = 0;
    }

    private void rollUp() {
      if (mode != ROLL) {
        return;
      }
      for (int r = row - depth + 1; r < row; r++) {
        shown.moveRow(r + 1, r);
      }
      column = 0;
      look = 0;
    }

    private void changeScreens() {
      Screen s = shown;
      shown = hidden;
      hidden = s;
      mode = POP;
    }
  }

  /** The rows of a page; a row is empty until text comes to it. */
  private static final class PageText {
    private final int[] signs = new int[PAGE_ROWS * PAGE_COLUMNS];
    private final boolean[] filled = new boolean[PAGE_ROWS];

    int signAt(int row, int column) {
      if (isOutside(row, PAGE_ROWS) || isOutside(column, PAGE_COLUMNS)) {
        return 0;
      }
      return signs[row * PAGE_COLUMNS + column];
    }

    void eraseRows(int from) {
      for (int r = Math.max(from, 0); r < PAGE_ROWS; r++) {
        if (filled[r]) {
          setSigns(r, PAGE_COLUMNS, 0);
          filled[r] = false;
        }
      }
    }

    /** Text comes to a row: so many spaces, and behind them the bytes from a place on. */
    void fill(int row, int spaces, int[] bytes, int from) {
      if (isOutside(row, PAGE_ROWS)) {
        return;
      }
      setSigns(row, filled[row] ? spaces : PAGE_COLUMNS, SPACE);
      filled[row] = true;
      for (int c = Math.max(spaces, 0); c < PAGE_COLUMNS; c++) {
        int i = from + c - spaces;
        if (!isOutside(i, bytes.length) && isRight(bytes[i])) {
          signs[row * PAGE_COLUMNS + c] = bytes[i] & 127;
        }
      }
    }

    void copyFrom(PageText other) {
      System.arraycopy(other.signs, 0, signs, 0, PAGE_ROWS * PAGE_COLUMNS);
      System.arraycopy(other.filled, 0, filled, 0, PAGE_ROWS);
    }

    /** Row 0, the header's, is no part of the LINES. */
    void addTo(Lines l) {
      for (int r = 1; r < PAGE_ROWS; r++) {
        if (filled[r]) {
          l.addRow(signs, r * PAGE_COLUMNS, PAGE_COLUMNS);
        }
      }
    }

    private void setSigns(int row, int count, int sign) {
      for (int c = 0; c < count && c < PAGE_COLUMNS; c++) {
        signs[row * PAGE_COLUMNS + c] = sign;
      }
    }
  }

  private static final class Page {
    private final PageText text = new PageText();
    private final int[] links = new int[LINKS * LINK_PARTS];
    private int magazine;
    private int number;
    private int subcode;
    private int flags;
    private boolean isOpen;
    private int closings;
    private int headers;

    /** The object becomes another page, empty, as if it were new. */
    void become(int newMagazine, int newNumber, int newSubcode) {
      magazine = newMagazine;
      number = newNumber;
      subcode = newSubcode;
      flags = 0;
      isOpen = false;
      closings = 0;
      headers = 0;
      text.eraseRows(0);
      eraseLinks();
    }

    void eraseLinks() {
      for (int i = 0; i < links.length; i++) {
        links[i] = NONE;
      }
    }

    boolean hasName(int aMagazine, int aNumber, int aSubcode) {
      return magazine == aMagazine && number == aNumber && (aSubcode == NONE || subcode == aSubcode);
    }
  }

  /** The pages, in the order of their latest headers. */
  private static final class Store {
    private final Page[] places = new Page[STORE_LIMIT];
    private int count;

    Page pageAt(int place) {
      return isOutside(place, count) || isOutside(place, STORE_LIMIT) ? null : places[place];
    }

    /** The latest page of this name; SUBCODE NONE stands for any. */
    int placeOf(int magazine, int number, int subcode) {
      for (int i = count - 1; i >= 0; i--) {
        Page p = pageAt(i);
        if (p != null && p.hasName(magazine, number, subcode)) {
          return i;
        }
      }
      return NONE;
    }

    int placeOfOpen(int magazine) {
      for (int i = 0; i < count; i++) {
        Page p = pageAt(i);
        if (p != null && p.isOpen && p.magazine == magazine) {
          return i;
        }
      }
      return NONE;
    }

    /** The page of this name, behind all others now; it comes to the store if it was not there. */
    Page bringToEnd(int magazine, int number, int subcode) {
      int place = placeOf(magazine, number, subcode);
      boolean isKnown = place != NONE;
      if (!isKnown && count == STORE_LIMIT) {
        place = 0;
      }
      Page p = pageAt(place);
      if (p == null) {
        p = new Page();
      } else {
        takeOut(place);
      }
      if (!isKnown) {
        p.become(magazine, number, subcode);
      }
      addBehind(p);
      return p;
    }

    private void takeOut(int place) {
      if (isOutside(place, count)) {
        return;
      }
      for (int i = place; i + 1 < count && i + 1 < STORE_LIMIT; i++) {
        places[i] = places[i + 1];
      }
      count--;
    }

    private void addBehind(Page p) {
      if (count < STORE_LIMIT) {
        places[count] = p;
        count++;
      }
    }
  }

  /** The page that is WATCHED, as it was when it was CLOSED latest. */
  private static final class Watched {
    private final PageText text = new PageText();
    private int magazine = NONE;
    private int number = NONE;

    void begin(int newMagazine, int newNumber) {
      magazine = newMagazine;
      number = newNumber;
      text.eraseRows(0);
    }

    void see(Page closed) {
      if (closed.hasName(magazine, number, NONE)) {
        text.copyFrom(closed.text);
      }
    }

    void addTo(Lines l) {
      text.addTo(l);
    }
  }

  /** LINES in the making: one row of bytes that every source uses again. */
  private static final class Lines {
    private final int[] bytes = new int[LINES_LIMIT];
    private int length;

    void addRow(int[] letters, int from, int count) {
      if (from < 0 || from + count > letters.length) {
        return;
      }
      int first = from;
      while (first < from + count && letters[first] <= SPACE) {
        first++;
      }
      int last = from + count - 1;
      while (last >= first && letters[last] <= SPACE) {
        last--;
      }
      if (last < first) {
        return;
      }
      for (int i = first; i <= last; i++) {
        addByte(Math.max(letters[i], SPACE) & 255);
      }
      addByte(LINE_END);
    }

    boolean areThose(int[] others) {
      if (others.length != length) {
        return false;
      }
      for (int i = 0; i < others.length && i < LINES_LIMIT; i++) {
        if (bytes[i] != others[i]) {
          return false;
        }
      }
      return true;
    }

    int[] copied() {
      int[] copy = new int[Math.max(length, 0)];
      for (int i = 0; i < copy.length && i < LINES_LIMIT; i++) {
        copy[i] = bytes[i];
      }
      return copy;
    }

    private void addByte(int b) {
      if (length < LINES_LIMIT) {
        bytes[length] = b;
        length++;
      }
    }
  }

  private static final class Cue {
    private final int source;
    private final int begin;
    private final int[] bytes;
    private int end = NONE;

    Cue(int aSource, int aBegin, int[] itsBytes) {
      source = aSource;
      begin = aBegin;
      bytes = itsBytes;
    }
  }
}
