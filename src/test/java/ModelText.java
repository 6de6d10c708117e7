import java.math.BigInteger;
import java.util.ArrayList;
import java.util.List;
import java.util.Set;
import java.util.TreeSet;
import java.util.function.Consumer;
import java.util.function.Predicate;
import java.util.function.ToIntFunction;
import java.util.regex.Matcher;
import java.util.regex.Pattern;

/** The model's programs: read by a pattern and a descent that throws, made into functions. */
final class ModelText {
  static final class Fault extends RuntimeException {
    final int place;

    Fault(int place) {
      this.place = place;
    }
  }

  static final class Scene {
    Model.Event event;
    int place;
    int[] cell;

    int variable(int v) {
      return cell == null ? 0 : cell[v];
    }
  }

  static final class Rule {
    Set<Integer> kinds, streams;
    Predicate<Scene> test = s -> true;
    List<Consumer<Scene>> actions = new ArrayList<>();
  }

  static final class Program {
    ToIntFunction<Model.Event> part;
    List<Rule> rules = new ArrayList<>();
  }

  private static final Pattern TOKEN = Pattern.compile(" *([a-z]+|[0-9]+|!=|<=|>=|[,;:()+\\-*/%=<>])?");
  private static final String NOTHING = "";

  private final String text;
  private final List<String> tokens = new ArrayList<>();
  private final List<Integer> places = new ArrayList<>();
  private int at = 0;
  private int atoms = 0;

  ModelText(String text) {
    this.text = text;
    Matcher m = TOKEN.matcher(text);
    int from = 0;
    while (true) {
      m.region(from, text.length());
      m.lookingAt();
      String t = m.group(1);
      boolean out = t == null || t.length() > 8 && Character.isLetter(t.charAt(0))
          || Character.isDigit(t.charAt(0)) && new BigInteger(t).bitLength() > 31;
      tokens.add(out ? NOTHING : t);
      places.add(t == null ? m.end() : m.start(1));
      if (out) return;
      from = m.end();
    }
  }

  private String now() {
    return tokens.get(at);
  }

  private boolean atEnd() {
    return now().equals(NOTHING) && places.get(at) == text.length();
  }

  private Fault fault() {
    return new Fault(places.get(at));
  }

  private boolean has(String t) {
    if (!now().equals(t)) return false;
    at++;
    return true;
  }

  private void must(String t) {
    if (!has(t)) throw fault();
  }

  private String oneOf(String... these) {
    for (String t : these) if (has(t)) return t;
    throw fault();
  }

  Program program() {
    Program p = new Program();
    must("by");
    String by = oneOf("key", "stream", "kind", "all");
    p.part = e -> by.equals("key") ? e.key() : by.equals("stream") ? e.stream() : by.equals("kind") ? e.kind() : 0;
    must(";");
    do {
      if (p.rules.size() == 8) throw fault();
      p.rules.add(rule());
    } while (!atEnd());
    return p;
  }

  private Rule rule() {
    Rule r = new Rule();
    must("on");
    r.kinds = set();
    r.streams = has("from") ? set() : Set.of(0, 1, 2, 3, 4, 5, 6, 7);
    if (has("where")) r.test = test(8);
    must(":");
    do {
      if (r.actions.size() == 8) throw fault();
      r.actions.add(action());
    } while (has(","));
    must(";");
    return r;
  }

  private boolean isNumber() {
    return now().matches("[0-9]+");
  }

  private Set<Integer> set() {
    if (has("any")) return Set.of(0, 1, 2, 3, 4, 5, 6, 7);
    TreeSet<Integer> set = new TreeSet<>();
    if (!isNumber()) throw fault();
    while (isNumber()) {
      int n = Integer.parseInt(now());
      if (n > 7 || !set.isEmpty() && n <= set.last()) throw fault();
      set.add(n);
      at++;
    }
    return set;
  }

  private Consumer<Scene> action() {
    if (has("forget")) return s -> s.cell = null;
    if (!now().matches("[a-h]")) throw fault();
    int v = now().charAt(0) - 'a';
    at++;
    must("=");
    ToIntFunction<Scene> sum = sum(8);
    return s -> {
      int value = sum.applyAsInt(s);
      if (s.cell == null) s.cell = new int[8];
      s.cell[v] = value;
    };
  }

  private Predicate<Scene> test(int room) {
    Predicate<Scene> left = both(room);
    while (has("or")) left = left.or(both(room));
    return left;
  }

  private Predicate<Scene> both(int room) {
    Predicate<Scene> left = not(room);
    while (has("and")) left = left.and(not(room));
    return left;
  }

  private Predicate<Scene> not(int room) {
    if (room == 0 && (now().equals("not") || now().equals("("))) throw fault();
    if (has("not")) return not(room - 1).negate();
    if (has("(")) {
      Predicate<Scene> inner = test(room - 1);
      must(")");
      return inner;
    }
    if (has("fresh")) return s -> s.cell == null;
    ToIntFunction<Scene> left = sum(room);
    String sign = oneOf("=", "!=", "<", "<=", ">", ">=");
    ToIntFunction<Scene> right = sum(room);
    return s -> {
      int c = Integer.compare(left.applyAsInt(s), right.applyAsInt(s));
      return c == 0 ? sign.equals("=") || sign.equals("<=") || sign.equals(">=")
          : sign.equals("!=") || sign.startsWith(c < 0 ? "<" : ">");
    };
  }

  private ToIntFunction<Scene> sum(int room) {
    ToIntFunction<Scene> left = term(room);
    while (true) {
      ToIntFunction<Scene> l = left;
      if (has("+")) {
        ToIntFunction<Scene> r = term(room);
        left = s -> l.applyAsInt(s) + r.applyAsInt(s);
      } else if (has("-")) {
        ToIntFunction<Scene> r = term(room);
        left = s -> l.applyAsInt(s) - r.applyAsInt(s);
      } else {
        return left;
      }
    }
  }

  private ToIntFunction<Scene> term(int room) {
    ToIntFunction<Scene> left = atom(room);
    while (now().matches("[*/%]")) {
      String sign = now();
      at++;
      ToIntFunction<Scene> l = left;
      ToIntFunction<Scene> r = atom(room);
      left = s -> {
        BigInteger x = BigInteger.valueOf(l.applyAsInt(s));
        BigInteger y = BigInteger.valueOf(r.applyAsInt(s));
        if (sign.equals("*")) return x.multiply(y).intValue();
        if (y.signum() == 0) return 0;
        return (sign.equals("/") ? x.divide(y) : x.remainder(y)).intValue();
      };
    }
    return left;
  }

  private ToIntFunction<Scene> atom(int room) {
    if (now().equals("(") || now().equals("-")) {
      if (room == 0) throw fault();
      if (has("-")) {
        ToIntFunction<Scene> inner = atom(room - 1);
        return s -> -inner.applyAsInt(s);
      }
      at++;
      ToIntFunction<Scene> inner = sum(room - 1);
      must(")");
      return inner;
    }
    if (now().equals("least") || now().equals("most")) {
      boolean least = now().equals("least");
      at++;
      if (room == 0) throw fault();
      must("(");
      ToIntFunction<Scene> a = sum(room - 1);
      must(",");
      ToIntFunction<Scene> b = sum(room - 1);
      must(")");
      return s -> least ? Math.min(a.applyAsInt(s), b.applyAsInt(s)) : Math.max(a.applyAsInt(s), b.applyAsInt(s));
    }
    if (!isNumber() && !now().matches("[a-h]|key|value|kind|stream|place") || atoms == 120) throw fault();
    atoms++;
    String t = now();
    at++;
    switch (t) {
      case "key": return s -> s.event.key();
      case "value": return s -> s.event.value();
      case "kind": return s -> s.event.kind();
      case "stream": return s -> s.event.stream();
      case "place": return s -> s.place;
      default:
    }
    if (Character.isDigit(t.charAt(0))) {
      int n = Integer.parseInt(t);
      return s -> n;
    }
    int v = t.charAt(0) - 'a';
    return s -> s.variable(v);
  }
}
