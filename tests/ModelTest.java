import java.util.ArrayList;
import java.util.List;
import java.util.Random;

/** Runs of up to 512 mixed calls, the same ones every time, on the class and on the model. */
public final class ModelTest {
  private static final int RUNS = 4000;
  private static final int CALLS = 512;

  private final Random random;
  private final CaptionDesk desk = new CaptionDesk();
  private final Model model = new Model();
  private final List<String> story = new ArrayList<>();
  private int calls = 0;
  private boolean differs = false;

  private ModelTest(long seed) {
    random = new Random(seed);
  }

  public static void main(String[] args) {
    for (int run = 0; run < RUNS; run++) {
      new ModelTest(run).run(run % 4);
    }
    Check.end("ModelTest");
  }

  /** The kinds of runs: mixed, pairs above all, packets above all, cues above all. */
  private void run(int kind) {
    while (calls < CALLS - 24 && !differs) {
      int part = random.nextInt(10);
      if (kind == 1 ? part < 6 : kind == 2 ? part < 1 : part < 3) {
        pairs();
      } else if (kind == 2 ? part < 7 : part < 5) {
        packets();
      } else if (part < 7) {
        ticks();
      } else {
        looks();
      }
    }
  }

  private int below(int n) {
    return random.nextInt(n);
  }

  /** Mostly inside 0 .. n - 1, sometimes at its edges or far away. */
  private int near(int n) {
    int k = below(40);
    int[] odd = {-1, n, n + 1, Integer.MIN_VALUE, Integer.MAX_VALUE};
    return k < odd.length ? odd[k] : below(Math.max(n, 1));
  }

  private int rightOrNot(int sign) {
    int b = below(30) == 0 ? Caption.bad(sign) : Caption.right(sign);
    return below(20) == 0 ? b | below(1 << 20) << 8 : b;
  }

  private void pairs() {
    int field = below(60) == 0 ? near(2) : below(8) == 0 ? 1 : 0;
    for (int i = below(4); i >= 0; i--) {
      switch (below(9)) {
        case 0:
          both("pair", field, below(256), below(256));
          break;
        case 1:
        case 2:
        case 3:
          code(field, 20 + below(2), 32 + below(16));
          break;
        case 4:
          code(field, 16 + below(8), 64 + below(64));
          break;
        case 5:
          code(field, 17 + below(7), 32 + below(32));
          break;
        default:
          int first = below(8) == 0 ? 0 : 32 + below(96);
          both("pair", field, rightOrNot(first), rightOrNot(below(5) == 0 ? below(40) : 32 + below(96)));
          break;
      }
    }
  }

  private void code(int field, int x, int y) {
    int a = rightOrNot(x + (below(6) == 0 ? 8 : 0));
    int b = rightOrNot(y);
    for (int i = below(3); i >= 0; i--) {
      both("pair", field, a, b);
    }
  }

  private void packets() {
    int magazine = below(3) == 0 ? 1 + below(8) : 1 + below(2);
    int[] bytes;
    switch (below(6)) {
      case 0:
      case 1:
        int number = below(10) == 0 ? 255 : below(3) == 0 ? below(255) : below(4);
        int subcode = below(3) == 0 ? below(8192) : below(2);
        bytes = Packets.header(magazine, number, subcode, below(4) == 0 ? below(16) : 0);
        bytes[10] = rightOrNot(below(128));
        break;
      case 2:
        bytes = Packets.links(magazine);
        for (int i = 3; i < 39; i++) {
          bytes[i] = Packets.GUARDED[below(16)];
        }
        bytes[2] = Packets.GUARDED[below(6) == 0 ? below(16) : 0];
        break;
      case 3:
        bytes = Packets.blank(magazine, below(32));
        for (int i = 2; i < 42; i++) {
          bytes[i] = below(256);
        }
        break;
      default:
        bytes = Packets.blank(magazine, 1 + below(24));
        for (int i = 2; i < 42; i++) {
          bytes[i] = rightOrNot(below(2) == 0 ? 32 : below(128)) & 255;
        }
        break;
    }
    for (int i = below(6); i > 3; i--) {
      bytes[below(42)] ^= 1 << below(8);
    }
    for (int i = 0; i < 60; i += 20) {
      both("feed", Packets.number(bytes, i), Packets.number(bytes, i + 4), Packets.number(bytes, i + 8),
          Packets.number(bytes, i + 12), Packets.number(bytes, i + 16));
      if (below(60) == 0) {
        both("packet");
      }
    }
    both("packet");
  }

  private void ticks() {
    if (below(12) == 0) {
      both("watch", 1 + near(3), near(4));
    }
    both("tick", below(30) == 0 ? near(100001) : 1 + below(9));
  }

  private void looks() {
    int place = near(Math.max(model.pages(), 1));
    switch (below(12)) {
      case 0:
        both("state", near(4), near(5));
        both("channel", near(2));
        break;
      case 1:
      case 2:
      case 3:
        lookAtCells();
        break;
      case 4:
        both("guarded", below(3) == 0 ? random.nextInt() : below(256));
        both("nothing", near(3));
        break;
      case 5:
        both("pages");
        both("find", 1 + near(3), near(4), below(2) == 0 ? -1 : near(2));
        break;
      case 6:
        both("page", place, near(7));
        both("page", place, 4 + below(3));
        break;
      case 7:
        both("sign", place, near(25), near(40));
        both("sign", place, 0, 8);
        break;
      case 8:
        both("link", place, near(6), near(3));
        break;
      case 9:
        both("open", 1 + near(8));
        both("open", 1 + below(2));
        break;
      default:
        both("cues");
        int cue = near(Math.max(model.cues(), 1));
        both("cue", cue, near(4));
        both("line", cue, cue >= 0 && cue < model.cues() ? near(model.cue(cue, 3)) : 0);
        break;
    }
  }

  /** Cells about the place of a channel, where something is to be seen. */
  private void lookAtCells() {
    int channel = below(3) == 0 ? near(4) : 0;
    Model.Channel c = model.channels[channel < 0 || channel > 3 ? 0 : channel];
    for (int i = 0; i < 4; i++) {
      int row = below(5) == 0 ? near(16) : c.row - below(4);
      int column = below(3) == 0 ? near(32) : c.column - below(4);
      both("cell", channel, below(30) == 0 ? near(2) : below(2), row, column, below(30) == 0 ? near(2) : below(2));
    }
  }

  private void both(String name, int... a) {
    if (differs || calls >= CALLS) {
      return;
    }
    calls++;
    String want = answer(name, a, true);
    String got = answer(name, a, false);
    story.add(name + java.util.Arrays.toString(a) + "=" + want);
    differs = !want.equals(got);
    Check.isTrue("answer " + got + " to the last of " + (differs ? story : ""), !differs);
  }

  private String answer(String name, int[] a, boolean ofModel) {
    try {
      return "" + (ofModel ? askModel(name, a) : askDesk(name, a));
    } catch (RuntimeException e) {
      return e.getClass().getName();
    }
  }

  private int askModel(String name, int[] a) {
    Model m = model;
    switch (name) {
      case "pair": return m.pair(a[0], a[1], a[2]);
      case "cell": return m.cell(a[0], a[1], a[2], a[3], a[4]);
      case "state": return m.state(a[0], a[1]);
      case "channel": return m.channel(a[0]);
      case "guarded": return m.guarded(a[0]);
      case "feed": return m.feed(a[0], a[1], a[2], a[3], a[4]);
      case "packet": return m.packet();
      case "nothing": return m.nothing(a[0]);
      case "pages": return m.pages();
      case "find": return m.find(a[0], a[1], a[2]);
      case "page": return m.page(a[0], a[1]);
      case "sign": return m.sign(a[0], a[1], a[2]);
      case "link": return m.link(a[0], a[1], a[2]);
      case "open": return m.open(a[0]);
      case "watch": return m.watch(a[0], a[1]);
      case "tick": return m.tick(a[0]);
      case "cues": return m.cues();
      case "cue": return m.cue(a[0], a[1]);
      default: return m.line(a[0], a[1]);
    }
  }

  private int askDesk(String name, int[] a) {
    CaptionDesk d = desk;
    switch (name) {
      case "pair": return d.pair(a[0], a[1], a[2]);
      case "cell": return d.cell(a[0], a[1], a[2], a[3], a[4]);
      case "state": return d.state(a[0], a[1]);
      case "channel": return d.channel(a[0]);
      case "guarded": return d.guarded(a[0]);
      case "feed": return d.feed(a[0], a[1], a[2], a[3], a[4]);
      case "packet": return d.packet();
      case "nothing": return d.nothing(a[0]);
      case "pages": return d.pages();
      case "find": return d.find(a[0], a[1], a[2]);
      case "page": return d.page(a[0], a[1]);
      case "sign": return d.sign(a[0], a[1], a[2]);
      case "link": return d.link(a[0], a[1], a[2]);
      case "open": return d.open(a[0]);
      case "watch": return d.watch(a[0], a[1]);
      case "tick": return d.tick(a[0]);
      case "cues": return d.cues();
      case "cue": return d.cue(a[0], a[1]);
      default: return d.line(a[0], a[1]);
    }
  }
}
