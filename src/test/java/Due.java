/** What the tests share: a count of wrong answers, and texts as tapes. */
final class Due {
  static final long ABSENT = 1L << 40;
  static final long IMPROPER = ABSENT + 1;

  private static int wrong = 0;
  private static int asked = 0;
  private static String sentence = "";
  private static int askedBefore = 0;
  private static int sentences = 0;

  private Due() {}

  static void due(String call, long got, long want) {
    asked++;
    if (got == want) return;
    wrong++;
    String of = sentence.isEmpty() ? "" : sentence + ": ";
    System.out.println(of + call + " answered " + got + ", due is " + want);
  }

  /** What is asked from here on tests these words of a promise, or of a term. */
  static void sentence(String where, String words) {
    endSentence();
    sentence = where + ": \"" + words + "\"";
    askedBefore = asked;
    sentences++;
  }

  /** A sentence that nothing is asked of has no test. */
  private static void endSentence() {
    if (sentences == 0 || asked > askedBefore) return;
    wrong++;
    System.out.println("nothing was asked of " + sentence);
  }

  /** These calls change nothing that can be looked at. */
  static void changesNothing(String calls, EventLedger x, Runnable done) {
    String before = picture(x);
    done.run();
    String after = picture(x);
    due("what can be looked at is the same behind " + calls, after.equals(before) ? 1 : 0, 1);
  }

  /** The answers of all calls that only look, for the first events and cells. */
  static String picture(EventLedger x) {
    StringBuilder answers = new StringBuilder();
    for (int what = 0; what < 12; what++) answers.append(x.count(what)).append(' ');
    for (int s = 0; s < 8; s++) {
      for (int what = 0; what < 4; what++) answers.append(x.event(s, 0, what)).append(' ');
    }
    for (int f = 0; f < 6; f++) {
      for (int what = 0; what < 3; what++) answers.append(x.fold(f, what)).append(' ');
      long part = x.part(f, 0);
      answers.append(part).append(' ').append(x.cell(f, (int) part, 0)).append(' ');
    }
    for (int r = 0; r < 8; r++) {
      for (int what = 0; what < 4; what++) answers.append(x.reader(r, what)).append(' ');
      answers.append(x.parked(r, 0)).append(' ');
    }
    return answers.toString();
  }

  /** Ends the program with exit code 1 if an answer was wrong, or none was asked for. */
  static void finish() {
    endSentence();
    String of = sentences == 0 ? "" : " to " + sentences + " sentences";
    System.out.println(asked + " answers" + of + ", " + wrong + " not as due");
    if (wrong != 0 || asked == 0) System.exit(1);
  }

  /** Puts a text on a tape that is empty. */
  static void tape(EventLedger x, String text) {
    for (int at = 0; at < text.length(); at += 20) {
      int[] words = new int[5];
      for (int i = 0; i < 20; i++) {
        int b = at + i < text.length() ? text.charAt(at + i) : 0;
        words[i / 4] = words[i / 4] << 8 | b;
      }
      due("feed at " + at, x.feed(words[0], words[1], words[2], words[3], words[4]), at + 20);
    }
    due("end of " + text, x.end(text.length()), text.length());
  }

  static int define(EventLedger x, int fold, String text) {
    tape(x, text);
    return x.define(fold);
  }

  /** A fold with this program, which must have no fault. */
  static void program(EventLedger x, int fold, String text) {
    due("define " + text, define(x, fold, text), EventLedger.NONE);
  }

  /** One batch of one event. */
  static void event(EventLedger x, int stream, int kind, int key, int value) {
    due("stage", x.stage(kind, key, value), 1);
    due("append", x.append(stream, -1), x.count(0) - 1);
  }

  /** One batch of some events, whose kinds, keys and values are 0, 1, 2 and so on: the number of its first event. */
  static int batch(EventLedger x, int stream, int events) {
    for (int i = 0; i < events; i++) due("stage", x.stage(i, i, i), i + 1);
    return x.append(stream, -1);
  }

  static String repeat(String piece, int times) {
    return piece.repeat(times);
  }
}
