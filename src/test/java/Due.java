/** What the tests share: a count of wrong answers, and texts as tapes. */
final class Due {
  static final long ABSENT = 1L << 40;
  static final long IMPROPER = ABSENT + 1;

  private static int wrong = 0;
  private static int asked = 0;

  private Due() {}

  static void due(String call, long got, long want) {
    asked++;
    if (got == want) return;
    wrong++;
    System.out.println(call + " answered " + got + ", due is " + want);
  }

  /** Ends the program with exit code 1 if an answer was wrong, or none was asked for. */
  static void finish() {
    System.out.println(asked + " answers, " + wrong + " not as due");
    if (wrong != 0 || asked == 0) System.exit(1);
  }

  /** Puts a text on a tape that is empty. */
  static void tape(EventLedger x, String text) {
    for (int at = 0; at < text.length(); at += 20) {
      int[] words = new int[5];
      for (int i = 0; i < 20; i++) {
        int b = at + i < text.length() ? text.charAt(at + i) : 0;
        words[i / 4] = words[i / 4] << 8 | b;
      }
      due("feed at " + at, x.feed(words[0], words[1], words[2], words[3], words[4]), at + 20);
    }
    due("end of " + text, x.end(text.length()), text.length());
  }

  static int define(EventLedger x, int fold, String text) {
    tape(x, text);
    return x.define(fold);
  }

  /** A fold with this program, which must have no fault. */
  static void program(EventLedger x, int fold, String text) {
    due("define " + text, define(x, fold, text), EventLedger.NONE);
  }

  /** One batch of one event. */
  static void event(EventLedger x, int stream, int kind, int key, int value) {
    due("stage", x.stage(kind, key, value), 1);
    due("append", x.append(stream, -1), x.count(0) - 1);
  }

  static String repeat(String piece, int times) {
    return piece.repeat(times);
  }
}
