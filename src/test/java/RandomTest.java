import java.util.Random;

/** Runs of calls made by chance, but always the same: EventLedger answers what the model answers. */
public final class RandomTest {
  private static final int RUNS = 1500;
  private static final int CALLS = 512;
  private static final int LONG_RUNS = 10;
  private static final int LONG_CALLS = 4000;
  private static final int TEXTS = 60000;

  private final Random dice;
  private final TextMaker texts;
  private final EventLedger x = new EventLedger();
  private final Model m = new Model();
  private final StringBuilder story = new StringBuilder();
  private int calls = 0;
  private boolean same = true;

  private RandomTest(long seed) {
    dice = new Random(seed);
    texts = new TextMaker(dice);
  }

  public static void main(String[] args) {
    int differ = 0;
    for (int i = 0; i < RUNS && differ < 5; i++) if (!new RandomTest(i).wholeRun(CALLS)) differ++;
    // Nothing is promised of later calls, but they must end, and only in them 600 events are reached.
    for (int i = 0; i < LONG_RUNS && differ < 5; i++) if (!new RandomTest(RUNS + i).wholeRun(LONG_CALLS)) differ++;
    Due.due("runs that differ from the model", differ, 0);
    differ = 0;
    for (int i = 0; i < TEXTS && differ < 5; i++) if (!new RandomTest(-1 - i).oneText()) differ++;
    Due.due("texts that differ from the model", differ, 0);
    Due.finish();
  }

  private boolean wholeRun(int length) {
    while (same && calls < length) step();
    if (!same) System.out.println(story);
    return same;
  }

  private boolean oneText() {
    tape(texts.any());
    ask("define 0", x.define(0), m.define(0));
    if (!same) System.out.println(story);
    return same;
  }

  private void ask(String call, long got, long want) {
    calls++;
    story.append(call).append(": ").append(got).append('\n');
    if (got != want && same) {
      same = false;
      story.append("  the model: ").append(want).append('\n');
    }
  }

  private int below(int n) {
    return dice.nextInt(n);
  }

  /** Mostly one of the first n, now and then another. */
  private int index(int n) {
    switch (below(30)) {
      case 0: return -1;
      case 1: return n;
      case 2: return dice.nextInt();
      default: return below(n);
    }
  }

  private int key() {
    return below(20) == 0 ? dice.nextInt() : below(4) == 0 ? below(60) - 5 : below(8);
  }

  private void step() {
    int choice = below(100);
    if (choice < 30) batch();
    else if (choice < 36) program();
    else if (choice < 52) foldCall();
    else if (choice < 80) readerCall();
    else if (choice < 83) ask("keep", x.keep(), m.keep());
    else if (choice < 86) crash();
    else if (choice < 88) tapeCall();
    else look();
  }

  private void batch() {
    int size = 1 + below(below(3) == 0 ? 7 : 3);
    for (int i = 0; i < size; i++) {
      int kind = index(8), key = key(), value = below(6) == 0 ? dice.nextInt() : below(20);
      ask("stage " + kind + " " + key + " " + value, x.stage(kind, key, value), m.stage(kind, key, value));
    }
    int stream = index(below(2) == 0 ? 2 : 8);
    int expected = below(3) > 0 ? -1 : below(2) == 0 ? below(10) - 2 : m.count(4 + Math.floorMod(stream, 8));
    ask("append " + stream + " " + expected, x.append(stream, expected), m.append(stream, expected));
  }

  private void tape(String text) {
    ask("end 0", x.end(0), m.end(0));
    for (int at = 0; at < text.length(); at += 20) {
      int[] w = new int[5];
      for (int i = 0; i < 20; i++) w[i / 4] = w[i / 4] << 8 | (at + i < text.length() ? text.charAt(at + i) : dice.nextInt(256));
      ask("feed", x.feed(w[0], w[1], w[2], w[3], w[4]), m.feed(w));
    }
    ask("end of " + text, x.end(text.length()), m.end(text.length()));
  }

  private void program() {
    String text = below(4) == 0 ? texts.any() : texts.good();
    if (text.length() > 300) return;
    tape(text);
    int fold = index(below(2) == 0 ? 2 : 6);
    ask("define " + fold, x.define(fold), m.define(fold));
  }

  private void foldCall() {
    int fold = index(below(2) == 0 ? 2 : 6);
    int n = below(6) == 0 ? index(601) : below(12);
    switch (below(9)) {
      case 0: case 1: case 2: ask("run " + fold + " " + n, x.run(fold, n), m.run(fold, n)); break;
      case 3: if (below(3) == 0) ask("rewind " + fold, x.rewind(fold), m.rewind(fold)); break;
      case 4: case 5: cell(fold); break;
      case 6: case 7: {
        int what = index(3);
        ask("fold " + fold + " " + what, x.fold(fold, what), m.fold(fold, what));
        break;
      }
      default: {
        int k = below(3) == 0 ? index(41) : below(6);
        ask("part " + fold + " " + k, x.part(fold, k), m.part(fold, k));
      }
    }
  }

  private void cell(int fold) {
    long part = m.part(fold, below(4));
    int asked = part < Due.ABSENT && below(5) > 0 ? (int) part : key();
    int v = index(8);
    ask("cell " + fold + " " + asked + " " + v, x.cell(fold, asked, v), m.cell(fold, asked, v));
  }

  private void readerCall() {
    int reader = index(below(2) == 0 ? 2 : 8);
    switch (below(16)) {
      case 0: {
        int kinds = below(2) == 0 ? 255 : dice.nextInt(), streams = below(2) == 0 ? -1 : dice.nextInt();
        int from = below(10) == 0 ? index(m.count(0) + 1) : below(m.count(0) + 1) / 2;
        ask("subscribe " + reader + " " + kinds + " " + streams + " " + from,
            x.subscribe(reader, kinds, streams, from), m.subscribe(reader, kinds, streams, from));
        break;
      }
      case 1: case 2: {
        int what = index(4);
        ask("reader " + reader + " " + what, x.reader(reader, what), m.reader(reader, what));
        break;
      }
      case 3: {
        int k = index(3);
        ask("parked " + reader + " " + k, x.parked(reader, k), m.parked(reader, k));
        break;
      }
      case 4: case 5: case 6: case 7: case 8: tell(reader); break;
      default: ask("take " + reader, x.take(reader), m.take(reader));
    }
  }

  private void tell(int reader) {
    int[] out = reader >= 0 && reader < 8 ? m.outOf(reader) : new int[0];
    int event = out.length > 0 && below(8) > 0 ? out[below(out.length)] : index(600);
    boolean done = below(3) == 0;
    ask("tell " + reader + " " + event + " " + done, x.tell(reader, event, done), m.tell(reader, event, done));
  }

  private void crash() {
    int behind = m.count(3);
    int n = below(4) == 0 ? index(1000) : below(behind + 9);
    ask("crash " + n, x.crash(n), m.crash(n));
  }

  private void tapeCall() {
    int n = below(2) == 0 ? below(60) : index(1201);
    if (below(2) == 0) ask("end " + n, x.end(n), m.end(n));
    else ask("feed", x.feed(n, n, n, n, n), m.feed(n, n, n, n, n));
  }

  private void look() {
    int stream = index(below(2) == 0 ? 2 : 8);
    int version = below(4) == 0 ? index(600) : below(10), what = index(4), key = key(), counted = index(12);
    switch (below(3)) {
      case 0: ask("event " + stream + " " + version + " " + what, x.event(stream, version, what), m.event(stream, version, what)); break;
      case 1: ask("latest " + stream + " " + key, x.latest(stream, key), m.latest(stream, key)); break;
      default: ask("count " + counted, x.count(counted), m.count(counted));
    }
  }
}
