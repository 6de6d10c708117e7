/** A test for each sentence on an edge of readers: READERS, promises 16 to 20. */
public final class EdgesOfReadersTest {
  private static final int MIN = Integer.MIN_VALUE;
  private static final int MAX = Integer.MAX_VALUE;
  private static final int REFUSED = EventLedger.REFUSED;
  private static final int NONE = EventLedger.NONE;
  private static final int FULL = EventLedger.FULL;

  private static final int[] NO_READER = {-1, 8, 9, MIN, MAX};

  public static void main(String[] args) {
    atFirst();
    sets();
    subscribe();
    subscribeIsRefused();
    takeBack();
    takeNew();
    takeIsRefused();
    takeIsFull();
    takeNone();
    tellDone();
    tellBack();
    tellParks();
    tellIsRefused();
    givenThroughPower();
    reader();
    parked();
    Due.finish();
  }

  /** An object with events of kinds 0 to 7 in turn, in stream 0. */
  private static EventLedger events(int n) {
    EventLedger x = new EventLedger();
    for (int i = 0; i < n; i++) Due.event(x, 0, i % 8, i, i);
    return x;
  }

  private static void all(EventLedger x, int reader) {
    Due.due("subscribe", x.subscribe(reader, 255, 255, 0), 0);
  }

  private static void takes(EventLedger x, int reader, int... events) {
    for (int event : events) Due.due("take", x.take(reader), event);
  }

  private static void state(EventLedger x, int reader, int next, int out, int back, int parked) {
    Due.due("next", x.reader(reader, 0), next);
    Due.due("out", x.reader(reader, 1), out);
    Due.due("back", x.reader(reader, 2), back);
    Due.due("parked", x.reader(reader, 3), parked);
  }

  private static void atFirst() {
    Due.sentence("READERS", "READERS 0 to 7: each has KINDS and STREAMS, sets of bits 0 to 7, none at first");
    EventLedger x = events(3);
    for (int r = 0; r < 8; r++) Due.due("none", x.take(r), NONE);
    for (int r = 0; r < 8; r++) Due.due("subscribe", x.subscribe(r, 255, 255, r % 3), 0);
    for (int r = 0; r < 8; r++) Due.due("each has its own", x.take(r), r % 3);
    for (int r = 0; r < 8; r++) Due.due("each has its own", x.tell(r, r % 3, true), 0);

    Due.sentence("READERS", "a NEXT, the number of the event from which it looks for new ones, 0 at first");
    EventLedger y = events(2);
    for (int r = 0; r < 8; r++) state(y, r, 0, 0, 0, 0);
  }

  private static void sets() {
    Due.sentence("Promise 16", "A reader has these KINDS and STREAMS (their lowest 8 bits)");
    EventLedger x = new EventLedger();
    for (int i = 0; i < 8; i++) Due.event(x, 7 - i, i, 0, 0);
    for (int bit = 0; bit < 8; bit++) {
      Due.due("subscribe", x.subscribe(0, 1 << bit, 255, 0), 0);
      Due.due("subscribe", x.subscribe(1, 255, 1 << bit, 0), 0);
      takes(x, 0, bit, NONE);
      takes(x, 1, 7 - bit, NONE);
    }
    int[] none = {0, 256, -256, MIN, 0x7fffff00};
    for (int bits : none) {
      Due.due("subscribe", x.subscribe(2, bits, 255, 0), 0);
      Due.due("subscribe", x.subscribe(3, 255, bits, 0), 0);
      takes(x, 2, NONE);
      takes(x, 3, NONE);
    }
    Due.due("subscribe", x.subscribe(4, 0x181, MAX, 0), 0);
    takes(x, 4, 0, 7, NONE);
    Due.due("subscribe", x.subscribe(5, -1, -1, 0), 0);
    takes(x, 5, 0, 1, 2, 3, 4, 5, 6, 7);
    Due.due("both must have it", x.subscribe(6, 1 << 2 | 1 << 3, 1 << 4 | 1 << 7, 0), 0);
    takes(x, 6, 3, NONE);
  }

  private static void subscribe() {
    Due.sentence("Promise 16", "and begins at an event, with nothing OUT, BACK and PARKED: 0.");
    EventLedger x = events(6);
    all(x, 0);
    takes(x, 0, 0);
    Due.due("tell", x.tell(0, 0, false), 0);
    takes(x, 0, 0);
    Due.due("tell", x.tell(0, 0, false), 0);
    takes(x, 0, 0);
    Due.due("tell", x.tell(0, 0, false), 0);
    takes(x, 0, 1, 2);
    Due.due("tell", x.tell(0, 1, false), 1);
    state(x, 0, 3, 1, 1, 1);
    Due.due("subscribe", x.subscribe(0, 255, 255, 4), 0);
    state(x, 0, 4, 0, 0, 0);
    Due.due("parked", x.parked(0, 0), NONE);
    Due.due("tell", x.tell(0, 2, true), NONE);
    takes(x, 0, 4, 5, NONE);
    Due.due("subscribe", x.subscribe(0, 255, 255, 0), 0);
    takes(x, 0, 0);
    Due.due("how often it was given is begun anew", x.tell(0, 0, false), 0);
    takes(x, 0, 0);
    Due.due("how often it was given is begun anew", x.tell(0, 0, false), 0);
    state(x, 0, 1, 0, 1, 0);
    Due.due("behind the last", x.subscribe(0, 255, 255, 6), 0);
    state(x, 0, 6, 0, 0, 0);
    takes(x, 0, NONE);
    Due.due("of no events", new EventLedger().subscribe(7, 255, 255, 0), 0);
  }

  private static void subscribeIsRefused() {
    Due.sentence("Promise 16", "REFUSED for another reader, or from not 0 to how many events there are.");
    EventLedger x = events(3);
    all(x, 0);
    takes(x, 0, 0, 1);
    Due.due("tell", x.tell(0, 1, false), 1);
    int[] others = {-1, 4, 600, MIN, MAX};
    Due.changesNothing("subscribe", x, () -> {
      for (int r : NO_READER) Due.due("reader " + r, x.subscribe(r, 255, 255, 0), REFUSED);
      for (int from : others) Due.due("from " + from, x.subscribe(0, 0, 0, from), REFUSED);
    });
    takes(x, 0, 1, 2);
    Due.due("of no events", new EventLedger().subscribe(0, 255, 255, 1), REFUSED);
  }

  private static void takeBack() {
    Due.sentence("Promise 17", "the least that is BACK, else the first from its NEXT on");
    EventLedger x = events(6);
    all(x, 0);
    takes(x, 0, 0, 1, 2, 3);
    int out = 3;
    int[] told = {3, 0, 2};
    for (int event : told) Due.due("tell", x.tell(0, event, false), out--);
    state(x, 0, 4, 1, 3, 0);
    takes(x, 0, 0, 2);
    Due.due("a lesser one comes back", x.tell(0, 1, false), 2);
    takes(x, 0, 1, 3);
    state(x, 0, 4, 4, 0, 0);
    takes(x, 0, 4, 5, NONE);
  }

  private static void takeNew() {
    Due.sentence("Promise 17", "of its kinds and streams (its NEXT is behind that then): its number; it is OUT");
    EventLedger x = events(8);
    Due.due("subscribe", x.subscribe(0, 1 << 0 | 1 << 3 | 1 << 7, 1, 0), 0);
    takes(x, 0, 0);
    state(x, 0, 1, 1, 0, 0);
    takes(x, 0, 3);
    state(x, 0, 4, 2, 0, 0);
    takes(x, 0, 7);
    state(x, 0, 8, 3, 0, 0);
    Due.due("subscribe", x.subscribe(0, 255, 255, 7), 0);
    takes(x, 0, 7);
    state(x, 0, 8, 1, 0, 0);
  }

  private static void takeIsRefused() {
    Due.sentence("Promise 17", "REFUSED for another reader");
    EventLedger x = events(2);
    all(x, 0);
    all(x, 7);
    Due.changesNothing("take", x, () -> {
      for (int r : NO_READER) Due.due("reader " + r, x.take(r), REFUSED);
    });
    takes(x, 0, 0);
    takes(x, 7, 0);
  }

  private static void takeIsFull() {
    Due.sentence("READERS", "events that are OUT (given, and not told of), at most 8");
    EventLedger x = events(12);
    all(x, 0);
    takes(x, 0, 0, 1, 2, 3, 4, 5, 6, 7);
    state(x, 0, 8, 8, 0, 0);

    Due.sentence("Promise 17", "FULL with 8 OUT, ahead of what follows (nothing changes then)");
    Due.changesNothing("take", x, () -> takes(x, 0, FULL, FULL));
    Due.due("done", x.tell(0, 3, true), 7);
    takes(x, 0, 8, FULL);
    state(x, 0, 9, 8, 0, 0);
    Due.due("back", x.tell(0, 5, false), 7);
    takes(x, 0, 5, FULL);
    Due.due("others are not full", x.subscribe(1, 255, 255, 11), 0);
    takes(x, 1, 11, NONE);
    EventLedger y = events(9);
    all(y, 0);
    takes(y, 0, 0, 1, 2, 3, 4, 5, 6, 7);
    y.keep();
    Due.due("crash", y.crash(0), 9);
    takes(y, 0, 0, 1, 2, 3, 4, 5, 6, 7);
    takes(y, 0, FULL);
    Due.due("back", y.tell(0, 0, false), 7);
    takes(y, 0, 0, FULL);
    EventLedger z = events(8);
    all(z, 0);
    takes(z, 0, 0, 1, 2, 3, 4, 5, 6, 7, FULL);
    Due.due("ahead of NONE", z.take(0), FULL);
    Due.due("done", z.tell(0, 0, true), 7);
    takes(z, 0, NONE);
  }

  private static void takeNone() {
    Due.sentence("Promise 17", "NONE if there is none (its NEXT is behind all events then).");
    EventLedger x = events(5);
    Due.due("subscribe", x.subscribe(0, 1 << 7, 255, 1), 0);
    takes(x, 0, NONE);
    state(x, 0, 5, 0, 0, 0);
    takes(x, 0, NONE);
    state(x, 0, 5, 0, 0, 0);
    Due.event(x, 1, 7, 0, 0);
    state(x, 0, 5, 0, 0, 0);
    takes(x, 0, 5, NONE);
    state(x, 0, 6, 1, 0, 0);
    Due.due("one without kinds", x.take(1), NONE);
    state(x, 1, 6, 0, 0, 0);
    EventLedger y = new EventLedger();
    takes(y, 0, NONE);
    state(y, 0, 0, 0, 0, 0);
  }

  private static void tellDone() {
    Due.sentence("Promise 18", "done: it is no more, however often it was given");
    EventLedger x = events(3);
    all(x, 0);
    for (int given = 1; given <= 3; given++) {
      int event = given - 1;
      for (int i = 1; i < given; i++) {
        takes(x, 0, event);
        Due.due("back", x.tell(0, event, false), 0);
      }
      takes(x, 0, event);
      Due.due("done", x.tell(0, event, true), 0);
      state(x, 0, given, 0, 0, 0);
      Due.due("no more", x.tell(0, event, true), NONE);
      Due.due("no more", x.tell(0, event, false), NONE);
    }
    takes(x, 0, NONE);
  }

  private static void tellBack() {
    Due.sentence("Promise 18", "else it is BACK");
    EventLedger x = events(2);
    all(x, 0);
    takes(x, 0, 0, 1);
    for (int i = 0; i < 2; i++) {
      Due.due("back", x.tell(0, 0, false), 1);
      state(x, 0, 2, 1, 1, 0);
      Due.due("not out", x.tell(0, 0, false), NONE);
      Due.due("not out", x.tell(0, 0, true), NONE);
      takes(x, 0, 0);
      state(x, 0, 2, 2, 0, 0);
    }

    Due.sentence("Promise 18", "how many are OUT");
    Due.due("of two", x.tell(0, 1, true), 1);
    Due.due("of one", x.tell(0, 0, true), 0);
    EventLedger y = events(8);
    all(y, 0);
    takes(y, 0, 0, 1, 2, 3, 4, 5, 6, 7);
    for (int event = 0; event < 8; event++) Due.due("tell", y.tell(0, event, event % 2 == 0), 7 - event);
  }

  private static void tellParks() {
    Due.sentence("Promise 18", "or, if it was given 3 times by then, PARKED");
    EventLedger x = events(2);
    all(x, 0);
    for (int i = 0; i < 2; i++) {
      takes(x, 0, 0);
      Due.due("back", x.tell(0, 0, false), 0);
      state(x, 0, 1, 0, 1, 0);
    }
    takes(x, 0, 0);
    Due.due("parked", x.tell(0, 0, false), 0);
    state(x, 0, 1, 0, 0, 1);
    Due.due("not out", x.tell(0, 0, true), NONE);
    takes(x, 0, 1);
    Due.due("of another event it is counted apart", x.tell(0, 1, false), 0);
    state(x, 0, 2, 0, 1, 1);
    takes(x, 0, 1, NONE);
    all(x, 1);
    takes(x, 1, 0);
    Due.due("of another reader it is counted apart", x.tell(1, 0, false), 0);
    state(x, 1, 1, 0, 1, 0);
  }

  private static void tellIsRefused() {
    Due.sentence("Promise 18", "REFUSED for another reader; NONE if that is not OUT.");
    EventLedger x = events(3);
    all(x, 0);
    all(x, 7);
    takes(x, 0, 0, 1);
    Due.due("back", x.tell(0, 1, false), 1);
    int[] notOut = {-1, 1, 2, 3, 599, 600, MIN, MAX};
    Due.changesNothing("tell", x, () -> {
      for (int r : NO_READER) {
        Due.due("reader " + r, x.tell(r, 0, true), REFUSED);
        Due.due("reader " + r, x.tell(r, -1, false), REFUSED);
      }
      for (int event : notOut) {
        Due.due("event " + event, x.tell(0, event, true), NONE);
        Due.due("event " + event, x.tell(0, event, false), NONE);
      }
      Due.due("out of another reader", x.tell(7, 0, true), NONE);
    });
    Due.due("that is out", x.tell(0, 0, true), 0);
  }

  private static void givenThroughPower() {
    Due.sentence("READERS", "BACK, each with how often it was given");
    EventLedger x = events(3);
    all(x, 0);
    takes(x, 0, 0, 1, 2);
    Due.due("back", x.tell(0, 1, false), 2);
    takes(x, 0, 1);
    Due.due("back", x.tell(0, 2, false), 2);
    takes(x, 0, 2);
    Due.due("back", x.tell(0, 2, false), 2);
    x.keep();
    Due.due("crash", x.crash(0), 3);
    takes(x, 0, 0, 1, 2);
    Due.due("given twice", x.tell(0, 0, false), 2);
    Due.due("given three times", x.tell(0, 1, false), 1);
    Due.due("given three times", x.tell(0, 2, false), 0);
    state(x, 0, 3, 0, 1, 2);
    Due.due("parked", x.parked(0, 0), 1);
    Due.due("parked", x.parked(0, 1), 2);
    EventLedger y = events(1);
    all(y, 0);
    for (int i = 0; i < 4; i++) {
      takes(y, 0, 0);
      y.keep();
      Due.due("crash", y.crash(0), 1);
    }
    takes(y, 0, 0);
    Due.due("given more than three times", y.tell(0, 0, false), 0);
    state(y, 0, 1, 0, 0, 1);
  }

  private static void reader() {
    Due.sentence("Promise 19", "Of a reader, what 0: its NEXT, 1: OUT, 2: BACK, 3: PARKED. REFUSED for others.");
    EventLedger x = events(8);
    all(x, 7);
    for (int i = 0; i < 3; i++) {
      takes(x, 7, 0);
      Due.due("tell", x.tell(7, 0, false), 0);
    }
    takes(x, 7, 1, 2, 3, 4, 5);
    Due.due("tell", x.tell(7, 2, false), 4);
    Due.due("tell", x.tell(7, 3, false), 3);
    state(x, 7, 6, 3, 2, 1);
    int[] others = {-1, 4, MIN, MAX};
    for (int r : NO_READER) {
      for (int what = 0; what < 4; what++) Due.due("reader " + r, x.reader(r, what), REFUSED);
    }
    for (int what : others) Due.due("what " + what, x.reader(7, what), REFUSED);
  }

  private static void parked() {
    Due.sentence("Promise 20", "The k-th event that is PARKED of a reader, by rising numbers, from 0.");
    EventLedger x = events(7);
    all(x, 3);
    takes(x, 3, 0, 1, 2, 3, 4, 5, 6);
    int[] parking = {6, 0, 4};
    for (int event : parking) {
      Due.due("back", x.tell(3, event, false), x.reader(3, 1));
      takes(x, 3, event);
      Due.due("back", x.tell(3, event, false), x.reader(3, 1));
      takes(x, 3, event);
      Due.due("parked", x.tell(3, event, false), x.reader(3, 1));
    }
    int[] rising = {0, 4, 6};
    for (int k = 0; k < 3; k++) Due.due("k " + k, x.parked(3, k), rising[k]);

    Due.sentence("Promise 20", "REFUSED for another reader; NONE if there is none.");
    int[] none = {-1, 3, 600, MIN, MAX};
    for (int k : none) Due.due("k " + k, x.parked(3, k), NONE);
    Due.due("another has none", x.parked(2, 0), NONE);
    for (int r : NO_READER) {
      Due.due("reader " + r, x.parked(r, 0), REFUSED);
      Due.due("ahead of NONE " + r, x.parked(r, -1), REFUSED);
    }
  }
}
