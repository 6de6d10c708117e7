import java.math.BigInteger;
import java.util.List;
import java.util.Random;
import java.util.Set;
import java.util.regex.Matcher;
import java.util.regex.Pattern;

/** The fault of texts made by chance is where the document's grammar, written down as it stands there, can not go on. */
public final class GrammarTest {
  private static final int TEXTS = 12000;
  private static final int DEEP = 8;
  private static final Pattern TOKEN = Pattern.compile("[a-z]+|[0-9]+|!=|<=|>=|[,;:()+\\-*/%=<>]");
  private static final List<String> WORDS = List.of("by", "key", "stream", "kind", "all", "on", "any", "from", "where", "forget",
      "value", "place", "least", "most", "or", "and", "not", "fresh");
  private static final String NEVER = "NEVER";
  private static final String UNKNOWN = "UNKNOWN";
  private static final Earley GRAMMAR = new Earley();

  public static void main(String[] args) {
    upper();
    for (int depth = 0; depth <= DEEP; depth++) {
      atoms("", depth);
      atoms("PLAIN", depth);
      sums("", depth);
      sums("PLAIN", depth);
      tests(depth);
    }
    int good = 0;
    for (int i = 0; i < TEXTS; i++) {
      String text = new TextMaker(new Random(i)).any();
      int fault = fault(text);
      Due.due("define " + text, Due.define(new EventLedger(), 0, text), fault);
      if (fault == EventLedger.NONE) good++;
    }
    Due.due("some texts are good, some are not", good > TEXTS / 10 && good < TEXTS - TEXTS / 10 ? 1 : 0, 1);
    Due.finish();
  }

  private static void upper() {
    GRAMMAR.name("PROGRAM", "by PART ; RULE RULES1");
    GRAMMAR.name("PART", "key", "stream", "kind", "all");
    for (int n = 1; n < 8; n++) GRAMMAR.name("RULES" + n, "", "RULE RULES" + (n + 1));
    GRAMMAR.name("RULES8", "");
    GRAMMAR.name("RULE", "on SET FROM WHERE : ACTION ACTIONS1 ;");
    GRAMMAR.name("FROM", "", "from SET");
    GRAMMAR.name("WHERE", "", "where TEST0");
    GRAMMAR.name("SET", "any", "NUMBERS");
    GRAMMAR.name("NUMBERS", "NUMBER", "NUMBER NUMBERS");
    for (int n = 1; n < 8; n++) GRAMMAR.name("ACTIONS" + n, "", ", ACTION ACTIONS" + (n + 1));
    // The fault of an action too many is its own place: the comma may stand there.
    GRAMMAR.name("ACTIONS8", "", ", " + NEVER);
    GRAMMAR.name("ACTION", "VARIABLE = SUM0", "forget");
    GRAMMAR.name("SIGN", "=", "!=", "<", "<=", ">", ">=");
  }

  /** PLAIN is what does not begin with a bracket. */
  private static void atoms(String plain, int depth) {
    String name = plain + "ATOM" + depth;
    GRAMMAR.name(name, "NUMBER", "VARIABLE", "key", "value", "kind", "stream", "place");
    int in = depth + 1;
    boolean tooDeep = depth == DEEP;
    if (!tooDeep) GRAMMAR.name(name, "- ATOM" + in);
    if (!tooDeep && plain.isEmpty()) GRAMMAR.name(name, "( SUM" + in + " )");
    for (String pair : List.of("least", "most")) {
      GRAMMAR.name(name, pair + (tooDeep ? " " + NEVER : " ( SUM" + in + " , SUM" + in + " )"));
    }
  }

  private static void sums(String plain, int depth) {
    GRAMMAR.name(plain + "SUM" + depth, plain + "TERM" + depth, plain + "SUM" + depth + " + TERM" + depth,
        plain + "SUM" + depth + " - TERM" + depth);
    GRAMMAR.name(plain + "TERM" + depth, plain + "ATOM" + depth);
    for (String sign : List.of("*", "/", "%")) {
      GRAMMAR.name(plain + "TERM" + depth, plain + "TERM" + depth + " " + sign + " ATOM" + depth);
    }
  }

  private static void tests(int depth) {
    GRAMMAR.name("TEST" + depth, "BOTH" + depth, "TEST" + depth + " or BOTH" + depth);
    GRAMMAR.name("BOTH" + depth, "NOT" + depth, "BOTH" + depth + " and NOT" + depth);
    GRAMMAR.name("NOT" + depth, "fresh", "PLAINSUM" + depth + " SIGN SUM" + depth);
    if (depth < DEEP) GRAMMAR.name("NOT" + depth, "not NOT" + (depth + 1), "( TEST" + (depth + 1) + " )");
  }

  private static int fault(String text) {
    GRAMMAR.begin();
    int atoms = 0;
    int latest = -1;
    int place = pastBlanks(text, 0);
    while (place < text.length()) {
      String token = tokenAt(text, place);
      Set<Earley.Item> read = GRAMMAR.read(symbol(token));
      if (read.isEmpty()) return place;
      if (has(read, "NUMBERS")) {
        int number = Integer.parseInt(token);
        if (number > 7 || number <= latest) return place;
        latest = number;
      } else {
        latest = -1;
      }
      if (has(read, "ATOM") && ++atoms > 120) return place;
      place = pastBlanks(text, place + token.length());
    }
    return GRAMMAR.whole() ? EventLedger.NONE : place;
  }

  private static int pastBlanks(String text, int place) {
    while (place < text.length() && text.charAt(place) == ' ') place++;
    return place;
  }

  /** The longest one that begins there, or nothing. */
  private static String tokenAt(String text, int place) {
    Matcher token = TOKEN.matcher(text).region(place, text.length());
    return token.lookingAt() ? token.group() : "";
  }

  private static String symbol(String token) {
    if (token.isEmpty()) return UNKNOWN;
    char first = token.charAt(0);
    if (Character.isDigit(first)) return new BigInteger(token).bitLength() > 31 ? UNKNOWN : "NUMBER";
    if (!Character.isLetter(first)) return token;
    if (token.length() == 1 && first <= 'h') return "VARIABLE";
    return WORDS.contains(token) ? token : UNKNOWN;
  }

  /** Whether the token that was just read may be one of these alone, and not the beginning of something longer. */
  private static boolean has(Set<Earley.Item> read, String name) {
    return read.stream().anyMatch(i -> i.way().name.contains(name) && i.whole() && i.read() == 1);
  }
}
