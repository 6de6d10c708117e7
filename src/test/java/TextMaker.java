import java.util.Random;

/** Makes texts of programs by chance: good ones, ones at the limits, and ones with something changed. */
final class TextMaker {
  private static final String[] PIECES = {"by", "key", "stream", "kind", "all", "on", "any", "from", "where", "forget",
      "a", "h", "i", "value", "place", "least", "most", "or", "and", "not", "fresh", "0", "7", "8", "2147483647", "2147483648",
      ",", ";", ":", "(", ")", "+", "-", "*", "/", "%", "=", "!=", "<", "<=", ">", ">=", "!", "$", "abcdefghi", " ", "\u00ff", "A"};

  private final Random dice;
  private StringBuilder text = new StringBuilder();
  private boolean tight;

  TextMaker(Random dice) {
    this.dice = dice;
  }

  /** A text of at most 1200 bytes, with or without a fault. */
  String any() {
    String text = good();
    if (below(8) == 0) text = deep();
    if (below(8) == 0) text = many();
    int changes = below(3);
    for (int i = 0; i < changes; i++) text = changed(text);
    return text.length() <= 1200 ? text : text.substring(0, 1200);
  }

  /** A text without a fault, but perhaps for its length. */
  String good() {
    text = new StringBuilder();
    tight = below(2) == 0;
    word("by");
    word(pick("key", "key", "stream", "kind", "all"));
    word(";");
    int rules = below(10) == 0 ? 8 : 1 + below(3);
    for (int i = 0; i < rules; i++) rule();
    return text.toString();
  }

  private int below(int n) {
    return dice.nextInt(n);
  }

  private String pick(String... these) {
    return these[below(these.length)];
  }

  private void word(String w) {
    boolean letters = text.length() > 0 && Character.isLetterOrDigit(text.charAt(text.length() - 1))
        && Character.isLetterOrDigit(w.charAt(0));
    if (letters || !tight) text.append(" ");
    if (below(30) == 0) text.append("  ");
    text.append(w);
  }

  private void rule() {
    word("on");
    set();
    if (below(4) == 0) {
      word("from");
      set();
    }
    if (below(2) == 0) {
      word("where");
      test(2);
    }
    word(":");
    int actions = below(10) == 0 ? 8 : 1 + below(3);
    for (int i = 0; i < actions; i++) {
      if (i > 0) word(",");
      action();
    }
    word(";");
  }

  private void set() {
    int bits = below(3) == 0 ? 0 : below(256);
    if (bits == 0) word("any");
    for (int i = 0; i < 8; i++) if ((bits >> i & 1) == 1) word(Integer.toString(i));
  }

  private void action() {
    if (below(6) == 0) {
      word("forget");
      return;
    }
    word(pick("a", "a", "b", "b", "c", "h"));
    word("=");
    sum(2);
  }

  private void test(int room) {
    not(room);
    while (below(4) == 0) {
      word(pick("and", "or"));
      not(room);
    }
  }

  private void not(int room) {
    int choice = below(8);
    if (choice == 0 && room > 0) {
      word("not");
      not(room - 1);
    } else if (choice == 1 && room > 0) {
      word("(");
      test(room - 1);
      word(")");
    } else if (choice == 2) {
      word("fresh");
    } else {
      leaf();
      word(pick("=", "!=", "<", "<=", ">", ">="));
      sum(1);
    }
  }

  private void sum(int room) {
    atom(room);
    while (below(3) == 0) {
      word(pick("+", "-", "*", "/", "%"));
      atom(room);
    }
  }

  private void atom(int room) {
    int choice = below(8);
    if (choice == 0 && room > 0) {
      word("(");
      sum(room - 1);
      word(")");
    } else if (choice == 1 && room > 0) {
      word("-");
      atom(room - 1);
    } else if (choice == 2 && room > 0) {
      word(pick("least", "most"));
      word("(");
      sum(room - 1);
      word(",");
      sum(room - 1);
      word(")");
    } else {
      leaf();
    }
  }

  private void leaf() {
    word(pick("a", "b", "c", "h", "key", "value", "kind", "stream", "place", "0", "1", "2", "5", "10", "2147483647", "007"));
  }

  /** A tower of brackets, minuses and nots about as high as may be. */
  private String deep() {
    int height = 7 + below(3);
    StringBuilder open = new StringBuilder(), shut = new StringBuilder();
    boolean asked = below(2) == 0;
    int nots = asked ? below(height + 1) : 0;
    for (int i = 0; i < height; i++) {
      String piece = i < nots ? pick("not ", "(") : pick("(", "-", "least(1,", "most (", "- ");
      if (i == nots && asked) piece = pick("1=(", "-(", "a*-", "least(b,", "1=-");
      open.append(piece);
      if (piece.equals("most (")) shut.insert(0, ",2)");
      else if (piece.contains("(")) shut.insert(0, ")");
    }
    return asked ? "by all; on any where " + open + "1" + pick("", "=1") + shut + pick("", "=1") + ": a = 1;"
        : "by all; on any: a = " + open + "1" + shut + ";";
  }

  /** About as many atoms, rules or actions as may be. */
  private String many() {
    int n = below(2);
    switch (below(3)) {
      case 0: return "by all; on any: a = 1" + pick("+1", "*key", "-(1)", "%-a").repeat(119 + n) + "; on any: forget;";
      case 1: return "by all;" + pick("on any: forget;", "on 1: a = 1;").repeat(8 + n);
      default: return "by all; on any: a = 1" + pick(", forget", ",b=2").repeat(7 + n) + "; on 1: forget;";
    }
  }

  private String changed(String text) {
    int at = below(text.length() + 1);
    int to = Math.min(text.length(), at + below(4));
    switch (below(4)) {
      case 0: return text.substring(0, at);
      case 1: return text.substring(0, at) + text.substring(to);
      case 2: return text.substring(0, at) + " " + pick(PIECES) + " " + text.substring(at);
      default: return text.substring(0, at) + pick(PIECES) + text.substring(to);
    }
  }
}
