import java.util.ArrayList;
import java.util.HashMap;
import java.util.List;
import java.util.Map;

/**
 * A second reading of the document, sentence by sentence and with the Java library, against which
 * ModelTest holds the class. Its exceptions are the document's alone.
 */
final class Model {
  static final class Channel {
    int mode = 0;
    int row = 1;
    int column = 0;
    int look = 0;
    int depth = 2;
    int[][][] shown = emptyScreen();
    int[][][] hidden = emptyScreen();
  }

  static final class Page {
    int magazine;
    int number;
    int subcode;
    int flags;
    int closed;
    int headers;
    int[][] rows = new int[25][];
    int[][] links = new int[6][];
  }

  static final class Cue {
    int source;
    int begin;
    int end = -1;
    String lines;
  }

  final Channel[] channels = {new Channel(), new Channel(), new Channel(), new Channel()};
  final Integer[] current = new Integer[2];
  final String[] before = new String[2];
  final List<Integer> tape = new ArrayList<>();
  final int[] nothings = new int[3];
  final List<Page> store = new ArrayList<>();
  final Map<Integer, Page> open = new HashMap<>();
  int watchedMagazine = 0;
  int watchedNumber = 0;
  int[][] watchedRows;
  int time = 0;
  final List<Cue> cues = new ArrayList<>();

  static int[][][] emptyScreen() {
    return new int[16][32][2];
  }

  static void range(int i, int from, int to) {
    if (i < from || i > to) {
      throw new IndexOutOfBoundsException();
    }
  }

  static boolean right(int b) {
    boolean odd = false;
    for (int i = 0; i < 8; i++) {
      odd ^= (b >> i & 1) == 1;
    }
    return odd;
  }

  // ---- pairs

  int pair(int field, int a, int b) {
    range(field, 0, 1);
    int first = a & 127;
    int second = b & 127;
    String was = before[field];
    before[field] = null;
    if (!right(a)) {
      return -1;
    }
    if (first >= 16 && first <= 31) {
      if (!right(b) || second < 32) {
        return -1;
      }
      String code = first + " " + second;
      if (code.equals(was)) {
        return 8;
      }
      before[field] = code;
      int channel = 2 * field + (first >= 24 ? 1 : 0);
      current[field] = channel;
      code(channels[channel], first >= 24 ? first - 8 : first, second);
      return channel;
    }
    if (current[field] == null) {
      return -1;
    }
    Channel c = channels[current[field]];
    if (first >= 32) {
      put(c, first);
      if (!right(b)) {
        put(c, 127);
      } else if (second >= 32) {
        put(c, second);
      }
      return 9;
    }
    if (first == 0 && right(b) && second >= 32) {
      put(c, second);
      return 9;
    }
    return -1;
  }

  static int[][][] target(Channel c) {
    switch (c.mode) {
      case 1:
        return c.hidden;
      case 2:
      case 3:
        return c.shown;
      default:
        return null;
    }
  }

  static void put(Channel c, int letter) {
    int[][][] s = target(c);
    if (s == null) {
      return;
    }
    if (c.column == 32) {
      s[c.row][31] = new int[] {letter, c.look};
    } else {
      s[c.row][c.column] = new int[] {letter, c.look};
      c.column++;
    }
  }

  static void code(Channel c, int x, int y) {
    if (y >= 64) {
      if (!(x == 16 && y >= 96)) {
        rowCode(c, x, y);
      }
    } else if (x == 17 && y <= 47) {
      c.look = (y / 2) % 8;
      if (y % 2 == 1) {
        c.look += 8;
      }
      put(c, 32);
    } else if (x == 17) {
      put(c, 256 + y - 48);
    } else if (x == 18 || x == 19) {
      if (c.column > 0) {
        c.column--;
      }
      put(c, x == 18 ? 272 + y - 32 : 304 + y - 32);
    } else if (x == 23 && (y == 33 || y == 34 || y == 35)) {
      for (int i = 32; i < y; i++) {
        if (c.column < 31) {
          c.column++;
        }
      }
    } else if (x == 20 || x == 21) {
      control(c, y - 32);
    }
  }

  static void rowCode(Channel c, int x, int y) {
    if (c.mode == 0 || c.mode == 4) {
      return;
    }
    Map<Integer, Integer> rows = Map.of(17, 1, 18, 3, 21, 5, 22, 7, 23, 9, 16, 11, 19, 12, 20, 14);
    int row = rows.get(x) + (y >= 96 ? 1 : 0);
    if (c.mode == 2) {
      if (row < c.depth) {
        row = c.depth;
      }
      if (row != c.row) {
        List<int[][]> going = new ArrayList<>();
        for (int r = c.row - c.depth + 1; r <= c.row; r++) {
          going.add(c.shown[r]);
          c.shown[r] = new int[32][2];
        }
        for (int i = 0; i < c.depth; i++) {
          c.shown[row - c.depth + 1 + i] = going.get(i);
        }
      }
    }
    c.row = row;
    int k = (y / 2) % 16;
    if (k < 8) {
      c.look = k;
      c.column = 0;
    } else {
      c.look = 0;
      c.column = 4 * (k - 8);
    }
    if (y % 2 == 1) {
      c.look += 8;
    }
  }

  static void control(Channel c, int what) {
    int[][][] s = target(c);
    if (what == 0) {
      c.mode = 1;
    } else if (what == 1 && s != null && c.column != 0) {
      c.column--;
      s[c.row][c.column] = new int[2];
    } else if (what == 4 && s != null && c.column != 0) {
      for (int i = c.column; i < 32; i++) {
        s[c.row][i] = new int[2];
      }
    } else if (what == 5 || what == 6 || what == 7) {
      roll(c, what - 3);
    } else if (what == 9) {
      c.mode = 3;
    } else if (what == 10 || what == 11) {
      c.mode = 4;
    } else if (what == 12) {
      c.shown = emptyScreen();
    } else if (what == 13 && c.mode == 2) {
      for (int r = c.row - c.depth + 1; r < c.row; r++) {
        c.shown[r] = c.shown[r + 1];
      }
      c.shown[c.row] = new int[32][2];
      c.column = 0;
      c.look = 0;
    } else if (what == 14) {
      c.hidden = emptyScreen();
    } else if (what == 15) {
      int[][][] t = c.shown;
      c.shown = c.hidden;
      c.hidden = t;
      c.mode = 1;
    }
  }

  static void roll(Channel c, int depth) {
    c.depth = depth;
    if (c.mode == 2) {
      for (int r = 1; r <= c.row - depth; r++) {
        c.shown[r] = new int[32][2];
      }
      if (c.row < depth) {
        c.row = depth;
      }
    } else {
      c.shown = emptyScreen();
      c.hidden = emptyScreen();
      c.row = 15;
    }
    c.mode = 2;
    c.column = 0;
    c.look = 0;
  }

  int cell(int channel, int screen, int row, int column, int what) {
    range(channel, 0, 3);
    range(screen, 0, 1);
    range(row, 1, 15);
    range(column, 0, 31);
    range(what, 0, 1);
    Channel c = channels[channel];
    return (screen == 0 ? c.shown : c.hidden)[row][column][what];
  }

  int state(int channel, int what) {
    range(channel, 0, 3);
    range(what, 0, 4);
    Channel c = channels[channel];
    return new int[] {c.mode, c.row, c.column, c.look, c.depth}[what];
  }

  int channel(int field) {
    range(field, 0, 1);
    return current[field] == null ? -1 : current[field];
  }

  // ---- packets

  /** By the nearest of the sixteen right bytes, not by the sums. */
  int guarded(int b) {
    for (int v = 0; v < 16; v++) {
      int wrong = Integer.bitCount((b ^ Packets.GUARDED[v]) & 255);
      if (wrong <= 1) {
        return v + 16 * wrong;
      }
    }
    return -1;
  }

  int feed(int a, int b, int c, int d, int e) {
    if (tape.size() > 40) {
      throw new IllegalStateException();
    }
    for (int n : new int[] {a, b, c, d, e}) {
      tape.add(n >>> 24);
      tape.add(n >>> 16 & 255);
      tape.add(n >>> 8 & 255);
      tape.add(n & 255);
    }
    return tape.size();
  }

  /** The values of some bytes; null if one is WRONG. */
  int[] values(List<Integer> bytes, int from, int count) {
    int[] v = new int[count];
    for (int i = 0; i < count; i++) {
      int g = guarded(bytes.get(from + i));
      if (g == -1) {
        return null;
      }
      v[i] = g % 16;
    }
    return v;
  }

  int packet() {
    if (tape.size() < 42) {
      throw new IllegalStateException();
    }
    List<Integer> bytes = new ArrayList<>(tape.subList(0, 42));
    tape.clear();
    int[] pq = values(bytes, 0, 2);
    if (pq == null) {
      nothings[0]++;
      return -1;
    }
    int magazine = pq[0] % 8 == 0 ? 8 : pq[0] % 8;
    int row = pq[0] / 8 + 2 * pq[1];
    if (row == 0) {
      header(magazine, bytes);
    } else if (row <= 24 || row == 27) {
      Page p = open.get(magazine);
      if (p == null) {
        nothings[2]++;
      } else if (row == 27) {
        links(p, magazine, bytes);
      } else {
        text(p, row, bytes.subList(2, 42), 0);
      }
    }
    return row;
  }

  void header(int magazine, List<Integer> bytes) {
    int[] v = values(bytes, 2, 8);
    if (v == null) {
      nothings[1]++;
      return;
    }
    for (int m = 1; m <= 8; m++) {
      Page p = open.get(m);
      if (p != null && (m == magazine || v[7] % 2 == 1)) {
        open.remove(m);
        p.closed++;
        if (m == watchedMagazine && p.number == watchedNumber) {
          watchedRows = new int[25][];
          for (int r = 1; r < 25; r++) {
            watchedRows[r] = p.rows[r] == null ? null : p.rows[r].clone();
          }
        }
      }
    }
    int number = 16 * v[1] + v[0];
    if (number == 255) {
      return;
    }
    int subcode = v[2] + 16 * (v[3] % 8) + 128 * v[4] + 2048 * (v[5] % 4);
    Page page = null;
    for (Page p : store) {
      if (p.magazine == magazine && p.number == number && p.subcode == subcode) {
        page = p;
      }
    }
    if (page == null) {
      if (store.size() == 20) {
        open.values().remove(store.remove(0));
      }
      page = new Page();
      page.magazine = magazine;
      page.number = number;
      page.subcode = subcode;
    }
    store.remove(page);
    store.add(page);
    open.put(magazine, page);
    page.headers++;
    page.flags = (v[3] >= 8 ? 1 : 0) | (v[5] / 4 % 2 == 1 ? 2 : 0) | (v[5] >= 8 ? 4 : 0) | (v[7] % 2 == 1 ? 8 : 0);
    if (v[3] >= 8) {
      int[] top = page.rows[0];
      page.rows = new int[25][];
      page.rows[0] = top;
      page.links = new int[6][];
    }
    text(page, 0, bytes.subList(10, 42), 8);
  }

  static void text(Page p, int row, List<Integer> bytes, int from) {
    int[] old = p.rows[row];
    int[] now = new int[40];
    for (int i = 0; i < 40; i++) {
      if (i < from) {
        now[i] = 32;
      } else if (right(bytes.get(i - from))) {
        now[i] = bytes.get(i - from) & 127;
      } else {
        now[i] = old == null ? 32 : old[i];
      }
    }
    p.rows[row] = now;
  }

  void links(Page p, int magazine, List<Integer> bytes) {
    int[] kind = values(bytes, 2, 1);
    if (kind == null || kind[0] != 0) {
      return;
    }
    for (int k = 0; k < 6; k++) {
      int[] v = values(bytes, 3 + 6 * k, 6);
      if (v != null) {
        int m = (magazine ^ (v[3] / 8 + 2 * (v[5] / 4))) % 8;
        p.links[k] = new int[] {m == 0 ? 8 : m, 16 * v[1] + v[0],
          v[2] + 16 * (v[3] % 8) + 128 * v[4] + 2048 * (v[5] % 4)};
      }
    }
  }

  int nothing(int what) {
    range(what, 0, 2);
    return nothings[what];
  }

  int pages() {
    return store.size();
  }

  int find(int magazine, int number, int subcode) {
    int found = -1;
    for (int i = 0; i < store.size(); i++) {
      Page p = store.get(i);
      if (p.magazine == magazine && p.number == number && (subcode == -1 || p.subcode == subcode)) {
        found = i;
      }
    }
    return found;
  }

  int page(int place, int what) {
    range(place, 0, store.size() - 1);
    range(what, 0, 6);
    Page p = store.get(place);
    int isOpen = open.get(p.magazine) == p ? 1 : 0;
    return new int[] {p.magazine, p.number, p.subcode, p.flags, isOpen, p.closed, p.headers}[what];
  }

  int sign(int place, int row, int column) {
    range(place, 0, store.size() - 1);
    range(row, 0, 24);
    range(column, 0, 39);
    int[] r = store.get(place).rows[row];
    return r == null ? 0 : r[column];
  }

  int link(int place, int k, int what) {
    range(place, 0, store.size() - 1);
    range(k, 0, 5);
    range(what, 0, 2);
    int[] l = store.get(place).links[k];
    return l == null ? -1 : l[what];
  }

  int open(int magazine) {
    range(magazine, 1, 8);
    return store.indexOf(open.get(magazine));
  }

  // ---- cues

  int watch(int magazine, int number) {
    if (magazine < 1 || magazine > 8 || number < 0 || number > 254) {
      throw new IllegalArgumentException();
    }
    watchedMagazine = magazine;
    watchedNumber = number;
    watchedRows = null;
    return 1;
  }

  static String line(int[] letters) {
    StringBuilder all = new StringBuilder();
    int first = -1;
    int last = -1;
    for (int i = 0; i < letters.length; i++) {
      if (letters[i] > 32) {
        first = first < 0 ? i : first;
        last = i;
      }
      all.append((char) (letters[i] < 32 ? 32 : letters[i] > 255 ? letters[i] % 256 : letters[i]));
    }
    return first < 0 ? "" : all.substring(first, last + 1) + "\n";
  }

  String lines(int source) {
    StringBuilder b = new StringBuilder();
    if (source < 4) {
      for (int r = 1; r <= 15; r++) {
        int[] letters = new int[32];
        for (int i = 0; i < 32; i++) {
          letters[i] = channels[source].shown[r][i][0];
        }
        b.append(line(letters));
      }
    } else if (watchedRows != null) {
      for (int r = 1; r <= 24; r++) {
        b.append(watchedRows[r] == null ? "" : line(watchedRows[r]));
      }
    }
    return b.length() > 400 ? b.substring(0, 400) : b.toString();
  }

  int tick(int n) {
    if (n < 1 || n > 100000) {
      throw new IllegalArgumentException();
    }
    time += n;
    for (int source = 0; source < 5; source++) {
      String now = lines(source);
      Cue last = null;
      for (Cue c : cues) {
        if (c.source == source && c.end == -1) {
          last = c;
        }
      }
      if (last != null && !last.lines.equals(now)) {
        last.end = time;
        last = null;
      }
      if (last == null && !now.isEmpty() && cues.size() < 60) {
        Cue c = new Cue();
        c.source = source;
        c.begin = time;
        c.lines = now;
        cues.add(c);
      }
    }
    return time;
  }

  int cues() {
    return cues.size();
  }

  int cue(int i, int what) {
    range(i, 0, cues.size() - 1);
    range(what, 0, 3);
    Cue c = cues.get(i);
    return new int[] {c.source, c.begin, c.end, c.lines.length()}[what];
  }

  int line(int i, int k) {
    range(i, 0, cues.size() - 1);
    range(k, 0, cues.get(i).lines.length() - 1);
    return cues.get(i).lines.charAt(k);
  }
}
