import java.util.ArrayList;
import java.util.Arrays;
import java.util.List;
import java.util.Map;
import java.util.TreeMap;
import java.util.TreeSet;

/** The document once more, in the plainest way and without a thought of room: what EventLedger is compared with. */
final class Model {
  static final long ABSENT = 1L << 40;

  record Event(int stream, int kind, int key, int value) {}

  static final class Cells {
    ModelText.Program program;
    int place;
    TreeMap<Integer, int[]> cells = new TreeMap<>();

    Cells copy() {
      Cells c = new Cells();
      c.program = program;
      c.place = place;
      for (Map.Entry<Integer, int[]> e : cells.entrySet()) c.cells.put(e.getKey(), e.getValue().clone());
      return c;
    }
  }

  static final class Reading {
    int kinds, streams, next;
    TreeMap<Integer, Integer> out = new TreeMap<>(), back = new TreeMap<>();
    TreeSet<Integer> parked = new TreeSet<>();

    Reading copy() {
      Reading r = new Reading();
      r.kinds = kinds;
      r.streams = streams;
      r.next = next;
      r.out.putAll(out);
      r.back.putAll(back);
      r.parked.addAll(parked);
      return r;
    }
  }

  private StringBuilder tape = new StringBuilder();
  private List<Event> staged = new ArrayList<>();
  private List<List<Event>> log = new ArrayList<>();
  private int keptBatches = 0;
  private List<Cells> folds = new ArrayList<>(), keptFolds = new ArrayList<>();
  private List<Reading> readers = new ArrayList<>(), keptReaders = new ArrayList<>();

  Model() {
    for (int i = 0; i < 6; i++) folds.add(new Cells());
    for (int i = 0; i < 8; i++) readers.add(new Reading());
    snapshot();
  }

  private void snapshot() {
    keptFolds.clear();
    keptReaders.clear();
    for (Cells f : folds) keptFolds.add(f.copy());
    for (Reading r : readers) keptReaders.add(r.copy());
  }

  private List<Event> events() {
    List<Event> all = new ArrayList<>();
    for (List<Event> b : log) all.addAll(b);
    return all;
  }

  private int version(int stream) {
    return (int) events().stream().filter(e -> e.stream == stream).count();
  }

  private static int bytes(List<List<Event>> batches) {
    return batches.stream().mapToInt(b -> 8 + 16 * b.size()).sum();
  }

  private static boolean among(int x, int n) {
    return 0 <= x && x < n;
  }

  int feed(int... words) {
    if (tape.length() + 20 > 1200) return -3;
    for (int w : words) for (int i = 3; i >= 0; i--) tape.append((char) (w >> 8 * i & 255));
    return tape.length();
  }

  int end(int n) {
    if (n < 0 || n > tape.length()) return -1;
    tape.setLength(n);
    return n;
  }

  int stage(int kind, int key, int value) {
    if (!among(kind, 8)) return -1;
    if (staged.size() == 6) return -3;
    staged.add(new Event(-1, kind, key, value));
    return staged.size();
  }

  int append(int stream, int expected) {
    if (!among(stream, 8)) return -1;
    if (staged.isEmpty()) return -2;
    if (expected != -1 && expected != version(stream)) return -4;
    int first = events().size();
    if (first + staged.size() > 600) return -3;
    List<Event> batch = new ArrayList<>();
    for (Event e : staged) batch.add(new Event(stream, e.kind, e.key, e.value));
    log.add(batch);
    staged.clear();
    return first;
  }

  int keep() {
    keptBatches = log.size();
    snapshot();
    return events().size();
  }

  int crash(int n) {
    if (n < 0) return -1;
    while (log.size() > keptBatches && bytes(log.subList(keptBatches, log.size())) > n) log.remove(log.size() - 1);
    keptBatches = log.size();
    staged.clear();
    for (int i = 0; i < 6; i++) folds.set(i, keptFolds.get(i).copy());
    for (int i = 0; i < 8; i++) {
      Reading r = keptReaders.get(i).copy();
      r.back.putAll(r.out);
      r.out.clear();
      readers.set(i, r);
    }
    return events().size();
  }

  long event(int stream, int version, int what) {
    List<Event> all = events();
    int seen = 0;
    for (int i = 0; i < all.size(); i++) {
      Event e = all.get(i);
      if (e.stream == stream && seen++ == version) {
        return what == 0 ? i : what == 1 ? e.kind : what == 2 ? e.key : what == 3 ? e.value : ABSENT;
      }
    }
    return ABSENT;
  }

  int latest(int stream, int key) {
    if (!among(stream, 8)) return -1;
    int found = -2;
    List<Event> all = events();
    for (int i = 0; i < all.size(); i++) if (all.get(i).stream == stream && all.get(i).key == key) found = i;
    return found;
  }

  int define(int fold) {
    if (!among(fold, 6)) return -1;
    String text = tape.toString();
    tape.setLength(0);
    try {
      ModelText.Program program = new ModelText(text).program();
      Cells c = new Cells();
      c.program = program;
      folds.set(fold, c);
      return -2;
    } catch (ModelText.Fault f) {
      return f.place;
    }
  }

  /** The cells behind the next event, or null if the fold is stuck there. */
  private TreeMap<Integer, int[]> behindNext(Cells f) {
    Event e = events().get(f.place);
    ModelText.Scene s = new ModelText.Scene();
    s.event = e;
    s.place = f.place;
    int part = f.program.part.applyAsInt(e);
    TreeMap<Integer, int[]> cells = f.copy().cells;
    s.cell = cells.get(part);
    for (ModelText.Rule r : f.program.rules) {
      if (!r.kinds.contains(e.kind) || !r.streams.contains(e.stream) || !r.test.test(s)) continue;
      for (java.util.function.Consumer<ModelText.Scene> a : r.actions) a.accept(s);
      break;
    }
    cells.remove(part);
    if (s.cell != null) cells.put(part, s.cell);
    return cells.size() > 40 ? null : cells;
  }

  int run(int fold, int n) {
    if (!among(fold, 6) || !among(n, 601)) return -1;
    Cells f = folds.get(fold);
    if (f.program == null) return -2;
    int size = events().size();
    for (int i = 0; i < n; i++) {
      TreeMap<Integer, int[]> then = f.place < size ? behindNext(f) : null;
      if (then == null) return i;
      f.cells = then;
      f.place++;
    }
    return n;
  }

  int rewind(int fold) {
    if (!among(fold, 6)) return -1;
    Cells f = folds.get(fold);
    if (f.program == null) return -2;
    int place = f.place;
    f.place = 0;
    f.cells.clear();
    return place;
  }

  long cell(int fold, int part, int v) {
    if (!among(fold, 6) || !among(v, 8)) return ABSENT + 1;
    int[] cell = folds.get(fold).cells.get(part);
    return cell == null ? ABSENT : cell[v];
  }

  long part(int fold, int k) {
    if (!among(fold, 6)) return ABSENT + 1;
    List<Integer> parts = new ArrayList<>(folds.get(fold).cells.keySet());
    return among(k, parts.size()) ? parts.get(k) : ABSENT;
  }

  int fold(int fold, int what) {
    if (!among(fold, 6) || !among(what, 3)) return -1;
    Cells f = folds.get(fold);
    if (what == 0) return f.program == null ? -1 : f.place;
    if (what == 1) return f.cells.size();
    return f.program != null && f.place < events().size() && behindNext(f) == null ? 1 : 0;
  }

  int subscribe(int reader, int kinds, int streams, int from) {
    if (!among(reader, 8) || !among(from, events().size() + 1)) return -1;
    Reading r = new Reading();
    r.kinds = kinds;
    r.streams = streams;
    r.next = from;
    readers.set(reader, r);
    return 0;
  }

  int take(int reader) {
    if (!among(reader, 8)) return -1;
    Reading r = readers.get(reader);
    if (r.out.size() == 8) return -3;
    if (!r.back.isEmpty()) {
      int event = r.back.firstKey();
      r.out.put(event, r.back.remove(event) + 1);
      return event;
    }
    List<Event> all = events();
    for (int i = r.next; i < all.size(); i++) {
      if ((r.kinds & 1 << all.get(i).kind) == 0 || (r.streams & 1 << all.get(i).stream) == 0) continue;
      r.next = i + 1;
      r.out.put(i, 1);
      return i;
    }
    r.next = all.size();
    return -2;
  }

  int tell(int reader, int event, boolean done) {
    if (!among(reader, 8)) return -1;
    Reading r = readers.get(reader);
    Integer given = r.out.remove(event);
    if (given == null) return -2;
    if (!done && given >= 3) r.parked.add(event);
    if (!done && given < 3) r.back.put(event, given);
    return r.out.size();
  }

  int reader(int reader, int what) {
    if (!among(reader, 8) || !among(what, 4)) return -1;
    Reading r = readers.get(reader);
    return new int[] {r.next, r.out.size(), r.back.size(), r.parked.size()}[what];
  }

  int parked(int reader, int k) {
    if (!among(reader, 8)) return -1;
    List<Integer> parked = new ArrayList<>(readers.get(reader).parked);
    return among(k, parked.size()) ? parked.get(k) : -2;
  }

  int count(int what) {
    if (what == 0) return events().size();
    if (what == 1) return log.subList(0, keptBatches).stream().mapToInt(List::size).sum();
    if (what == 2) return bytes(log);
    if (what == 3) return bytes(log.subList(keptBatches, log.size()));
    return what >= 4 && what <= 11 ? version(what - 4) : -1;
  }

  /** Which numbers could be asked for as events, for a test that wants some that are there. */
  int[] outOf(int reader) {
    return readers.get(reader).out.keySet().stream().mapToInt(Integer::intValue).toArray();
  }

  @Override
  public String toString() {
    return Arrays.toString(new int[] {events().size(), keptBatches});
  }
}
