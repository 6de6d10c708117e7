/** Promises 16 to 20: subscribe, take, tell, reader and parked. */
public final class ReaderTest {
  public static void main(String[] args) {
    subscribeRefuses();
    subscribeBeginsAnew();
    takeByKindsAndStreams();
    takeIsFull();
    takeGivesBackFirst();
    noneMovesNext();
    tellParks();
    wrongReaders();
    Due.finish();
  }

  /** Event i has kind i % 8 and stream i / 8. */
  private static EventLedger events(int n) {
    EventLedger x = new EventLedger();
    for (int i = 0; i < n; i++) Due.event(x, i / 8, i % 8, i, i);
    return x;
  }

  private static void state(EventLedger x, int reader, int next, int out, int back, int parked) {
    Due.due("next", x.reader(reader, 0), next);
    Due.due("out", x.reader(reader, 1), out);
    Due.due("back", x.reader(reader, 2), back);
    Due.due("parked", x.reader(reader, 3), parked);
  }

  private static void subscribeRefuses() {
    EventLedger x = events(3);
    Due.due("reader", x.subscribe(8, 255, 255, 0), EventLedger.REFUSED);
    Due.due("reader", x.subscribe(-1, 255, 255, 0), EventLedger.REFUSED);
    Due.due("from", x.subscribe(0, 255, 255, 4), EventLedger.REFUSED);
    Due.due("from", x.subscribe(0, 255, 255, -1), EventLedger.REFUSED);
    Due.due("nothing changed", x.take(0), EventLedger.NONE);
    Due.due("at the end", x.subscribe(0, 255, 255, 3), 0);
    Due.due("none", x.take(0), EventLedger.NONE);
    Due.due("the lowest 8 bits", x.subscribe(7, -256, 255, 0), 0);
    Due.due("none", x.take(7), EventLedger.NONE);
    Due.due("the lowest 8 bits", x.subscribe(7, 255, 256, 0), 0);
    Due.due("none", x.take(7), EventLedger.NONE);
    Due.due("the lowest 8 bits", x.subscribe(7, 0x7f02, -1, 0), 0);
    Due.due("kind 1", x.take(7), 1);
  }

  private static void subscribeBeginsAnew() {
    EventLedger x = events(6);
    x.subscribe(0, 255, 255, 0);
    for (int round = 0; round < 3; round++) {
      Due.due("take", x.take(0), 0);
      if (round < 2) x.tell(0, 0, false);
    }
    x.tell(0, 0, false);
    x.take(0);
    x.take(0);
    x.tell(0, 2, false);
    state(x, 0, 3, 1, 1, 1);
    Due.due("refused", x.subscribe(0, 1, 1, 7), EventLedger.REFUSED);
    state(x, 0, 3, 1, 1, 1);
    Due.due("subscribe", x.subscribe(0, 255, 255, 1), 0);
    state(x, 0, 1, 0, 0, 0);
    Due.due("no longer out", x.tell(0, 1, true), EventLedger.NONE);
    Due.due("subscribe", x.subscribe(0, 255, 255, 0), 0);
    for (int round = 0; round < 2; round++) {
      Due.due("take", x.take(0), 0);
      Due.due("given anew", x.tell(0, 0, false), 0);
    }
    state(x, 0, 1, 0, 1, 0);
  }

  private static void takeByKindsAndStreams() {
    EventLedger x = events(24);
    x.subscribe(1, 1 << 7 | 1 << 2, 1 << 2 | 1, 0);
    int[] want = {2, 7, 18, 23};
    for (int event : want) {
      Due.due("take", x.take(1), event);
      Due.due("next", x.reader(1, 0), event + 1);
    }
    Due.due("none", x.take(1), EventLedger.NONE);
    x.subscribe(1, 255, 1 << 1, 3);
    Due.due("take", x.take(1), 8);
    x.subscribe(1, 1 << 3, 255, 3);
    Due.due("from itself", x.take(1), 3);
    Due.due("take", x.take(1), 11);
    x.subscribe(1, 255, 0, 0);
    Due.due("no streams", x.take(1), EventLedger.NONE);
    x.subscribe(1, 0, 255, 0);
    Due.due("no kinds", x.take(1), EventLedger.NONE);
  }

  private static void takeIsFull() {
    EventLedger x = events(8);
    x.subscribe(0, 255, 255, 0);
    for (int i = 0; i < 8; i++) Due.due("take", x.take(0), i);
    Due.due("full ahead of none", x.take(0), EventLedger.FULL);
    Due.event(x, 0, 0, 0, 0);
    Due.due("full", x.take(0), EventLedger.FULL);
    state(x, 0, 8, 8, 0, 0);
    Due.due("tell", x.tell(0, 4, true), 7);
    Due.due("take", x.take(0), 8);
    Due.due("full", x.take(0), EventLedger.FULL);
    Due.due("other readers are apart", x.take(1), EventLedger.NONE);
  }

  private static void takeGivesBackFirst() {
    EventLedger x = events(5);
    x.subscribe(0, 255, 255, 0);
    for (int i = 0; i < 4; i++) x.take(0);
    Due.due("tell", x.tell(0, 3, false), 3);
    Due.due("tell", x.tell(0, 1, false), 2);
    Due.due("tell", x.tell(0, 0, true), 1);
    state(x, 0, 4, 1, 2, 0);
    Due.due("least back", x.take(0), 1);
    Due.due("then the next", x.take(0), 3);
    state(x, 0, 4, 3, 0, 0);
    Due.due("then new ones", x.take(0), 4);
    Due.due("then none", x.take(0), EventLedger.NONE);
    state(x, 0, 5, 4, 0, 0);
  }

  private static void noneMovesNext() {
    EventLedger x = events(4);
    x.subscribe(0, 1 << 6, 255, 1);
    Due.due("none", x.take(0), EventLedger.NONE);
    state(x, 0, 4, 0, 0, 0);
    Due.event(x, 3, 6, 0, 0);
    Due.due("a later one", x.take(0), 4);
    state(x, 0, 5, 1, 0, 0);
  }

  private static void tellParks() {
    EventLedger x = events(6);
    x.subscribe(0, 255, 255, 0);
    for (int i = 0; i < 6; i++) x.take(0);
    for (int round = 0; round < 2; round++) {
      for (int event = 5; event >= 0; event--) Due.due("back", x.tell(0, event, false), event);
      for (int event = 0; event < 6; event++) Due.due("again", x.take(0), event);
    }
    Due.due("done at the third", x.tell(0, 2, true), 5);
    Due.due("parked", x.tell(0, 4, false), 4);
    Due.due("parked", x.tell(0, 0, false), 3);
    Due.due("parked", x.tell(0, 5, false), 2);
    state(x, 0, 6, 2, 0, 3);
    Due.due("by rising numbers", x.parked(0, 0), 0);
    Due.due("by rising numbers", x.parked(0, 1), 4);
    Due.due("by rising numbers", x.parked(0, 2), 5);
    Due.due("no more", x.parked(0, 3), EventLedger.NONE);
    Due.due("below 0", x.parked(0, -1), EventLedger.NONE);
    Due.due("parked is not out", x.tell(0, 4, false), EventLedger.NONE);
    Due.due("done is not out", x.tell(0, 2, false), EventLedger.NONE);
    Due.due("never given", x.tell(0, 6, false), EventLedger.NONE);
    Due.due("no event", x.tell(0, -1, true), EventLedger.NONE);
    Due.due("no event", x.tell(0, 600, true), EventLedger.NONE);
    Due.due("no event", x.tell(0, Integer.MAX_VALUE, true), EventLedger.NONE);
    Due.due("no event", x.tell(0, Integer.MIN_VALUE, true), EventLedger.NONE);
    Due.due("parked is not given", x.take(0), EventLedger.NONE);
    Due.event(x, 0, 0, 0, 0);
    Due.due("a new one", x.take(0), 6);
    Due.due("back", x.tell(0, 6, false), 2);
    Due.due("back, not parked", x.take(0), 6);
  }

  private static void wrongReaders() {
    EventLedger x = events(1);
    int[] others = {-1, 8, Integer.MIN_VALUE, Integer.MAX_VALUE};
    for (int reader : others) {
      Due.due("take", x.take(reader), EventLedger.REFUSED);
      Due.due("tell", x.tell(reader, 0, true), EventLedger.REFUSED);
      Due.due("parked", x.parked(reader, 0), EventLedger.REFUSED);
      Due.due("reader", x.reader(reader, 0), EventLedger.REFUSED);
    }
    Due.due("what", x.reader(0, 4), EventLedger.REFUSED);
    Due.due("what", x.reader(0, -1), EventLedger.REFUSED);
  }
}
