import java.util.ArrayDeque;
import java.util.ArrayList;
import java.util.Deque;
import java.util.HashMap;
import java.util.LinkedHashSet;
import java.util.List;
import java.util.Map;
import java.util.Set;

/** Reads symbols by any grammar, all ways side by side, so that it knows of each symbol whether it can stand where it comes. */
final class Earley {
  /** One way to write a name; a name may have several, and also none at all, which can never stand anywhere. */
  static final class Way {
    final String name;
    final String[] symbols;

    Way(String name, String[] symbols) {
      this.name = name;
      this.symbols = symbols;
    }
  }

  /** A way that began somewhere and is read up to some symbol. */
  record Item(Way way, int read, int from) {
    String next() {
      return read < way.symbols.length ? way.symbols[read] : "";
    }

    Item on() {
      return new Item(way, read + 1, from);
    }

    boolean whole() {
      return read == way.symbols.length;
    }
  }

  private final Map<String, List<Way>> ways = new HashMap<>();
  private final List<Set<Item>> rows = new ArrayList<>();
  private String start;

  /** The first name is that of the whole. Each way is its symbols with blanks between; an empty one stands for nothing. */
  void name(String name, String... itsWays) {
    if (start == null) start = name;
    for (String way : itsWays) {
      String[] symbols = way.isEmpty() ? new String[0] : way.split(" ");
      ways.computeIfAbsent(name, n -> new ArrayList<>()).add(new Way(name, symbols));
    }
  }

  void begin() {
    rows.clear();
    Set<Item> first = new LinkedHashSet<>();
    for (Way way : ways.get(start)) first.add(new Item(way, 0, 0));
    addRow(first);
  }

  /** The items that have just read this symbol, none if it can not stand there. */
  Set<Item> read(String symbol) {
    Set<Item> row = new LinkedHashSet<>();
    for (Item item : rows.get(rows.size() - 1)) {
      if (item.next().equals(symbol)) row.add(item.on());
    }
    Set<Item> justRead = Set.copyOf(row);
    addRow(row);
    return justRead;
  }

  boolean whole() {
    return rows.get(rows.size() - 1).stream().anyMatch(i -> i.way.name.equals(start) && i.whole() && i.from == 0);
  }

  private void addRow(Set<Item> row) {
    int here = rows.size();
    rows.add(row);
    Deque<Item> fresh = new ArrayDeque<>(row);
    while (!fresh.isEmpty()) {
      for (Item found : following(fresh.pop(), here)) {
        if (row.add(found)) fresh.push(found);
      }
    }
  }

  private List<Item> following(Item item, int here) {
    List<Item> found = new ArrayList<>();
    if (item.whole()) {
      for (Item waiting : rows.get(item.from)) {
        if (waiting.next().equals(item.way.name)) found.add(waiting.on());
      }
      return found;
    }
    for (Way way : ways.getOrDefault(item.next(), List.of())) {
      found.add(new Item(way, 0, here));
      // What stands for nothing may have been found whole before this item came to wait for it.
      if (way.symbols.length == 0) found.add(item.on());
    }
    return found;
  }
}
