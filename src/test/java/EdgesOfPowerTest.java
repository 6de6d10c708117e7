/** A test for each sentence on an edge of keeps and losses of power: POWER LOST, promises 6 and 7. */
public final class EdgesOfPowerTest {
  private static final int MIN = Integer.MIN_VALUE;
  private static final int MAX = Integer.MAX_VALUE;
  private static final int REFUSED = EventLedger.REFUSED;
  private static final int NONE = EventLedger.NONE;
  private static final int FULL = EventLedger.FULL;

  private static final String COUNTING = "by all; on any: a = a + 1;";

  public static void main(String[] args) {
    keep();
    firstBytes();
    wholeBatchesStay();
    allBehindGoes();
    crashOfNothing();
    crashTakesTheBatch();
    crashIsRefused();
    foldsAsAtKeep();
    readersAsAtKeep();
    asAtFirst();
    outIsBack();
    crashIsNoKeep();
    Due.finish();
  }

  private static void keep() {
    Due.sentence("Promise 6", "Events, folds and readers are kept as they are: how many events there are.");
    EventLedger x = new EventLedger();
    Due.due("none", x.keep(), 0);
    x.stage(0, 0, 0);
    Due.due("without the batch that is made up", x.keep(), 0);
    Due.due("which stays", x.stage(1, 1, 1), 2);
    for (int i = 2; i < 6; i++) x.stage(i, i, i);
    Due.due("append", x.append(0, 0), 0);
    Due.batch(x, 1, 1);
    for (int f = 0; f < 6; f++) {
      Due.program(x, f, COUNTING);
      Due.due("run", x.run(f, f), f);
    }
    for (int r = 0; r < 8; r++) {
      Due.due("subscribe", x.subscribe(r, 255, 255, 7 - r), 0);
      if (r > 0) Due.due("take", x.take(r), 7 - r);
      if (r > 0) Due.due("tell", x.tell(r, 7 - r, false), 0);
    }
    Due.due("keep", x.keep(), 7);
    Due.changesNothing("changes and a crash", x, () -> {
      Due.due("keep again", x.keep(), 7);
      for (int f = 0; f < 6; f++) Due.due("run", x.run(f, 600), 7 - f);
      for (int r = 1; r < 8; r++) Due.due("take", x.take(r), 7 - r);
      Due.batch(x, 1, 1);
      Due.due("crash", x.crash(0), 7);
    });
  }

  /** Behind what is kept one batch of 1 to 6 events, of which just all bytes, or all but one, are left. */
  private static void firstBytes() {
    Due.sentence("POWER LOST", "of the log behind what is kept only the first bytes are left");
    for (int n = 1; n <= 6; n++) {
      int[] bytes = {0, 8, 8 + 16 * n - 1, 8 + 16 * n, 8 + 16 * n + 1, MAX};
      for (int left : bytes) {
        EventLedger x = new EventLedger();
        Due.batch(x, 0, 5);
        x.keep();
        Due.batch(x, 3, n);
        boolean whole = left >= 8 + 16 * n;
        Due.due("crash " + left + " with " + n, x.crash(left), whole ? 5 + n : 5);
        Due.due("events", x.count(0), whole ? 5 + n : 5);
        Due.due("bytes", x.count(2), whole ? 88 + 8 + 16 * n : 88);
      }
    }
  }

  private static void wholeBatchesStay() {
    Due.sentence("POWER LOST", "batches that are whole in them stay, and are kept then");
    EventLedger x = new EventLedger();
    Due.batch(x, 0, 1);
    Due.batch(x, 1, 2);
    Due.batch(x, 2, 3);
    Due.due("two are whole", x.crash(24 + 40 + 55), 3);
    Due.due("kept", x.count(1), 3);
    Due.due("behind", x.count(3), 0);
    Due.due("they stay", x.crash(0), 3);
    Due.due("an event of the first", x.event(0, 0, 0), 0);
    Due.due("an event of the second", x.event(1, 1, 0), 2);
    Due.batch(x, 2, 1);
    Due.due("bytes are counted from there", x.crash(23), 3);
    Due.batch(x, 2, 1);
    Due.due("bytes are counted from there", x.crash(24), 4);
  }

  private static void allBehindGoes() {
    Due.sentence("POWER LOST", "all behind goes");
    EventLedger x = new EventLedger();
    Due.batch(x, 4, 1);
    x.keep();
    Due.batch(x, 4, 6);
    Due.batch(x, 5, 1);
    Due.due("one that is small goes with the great one ahead of it", x.crash(103), 1);
    Due.due("version", x.count(8), 1);
    Due.due("version", x.count(9), 0);
    Due.due("event", x.event(4, 1, 0), Due.ABSENT);
    Due.due("event", x.event(5, 0, 0), Due.ABSENT);
    Due.due("latest", x.latest(4, 5), NONE);
    Due.due("latest", x.latest(4, 0), 0);
    x.stage(7, 70, 700);
    Due.due("the version that it has now", x.append(4, 1), 1);
    Due.due("key", x.event(4, 1, 2), 70);
    Due.program(x, 0, "by key; on any: a = value;");
    Due.due("run", x.run(0, 600), 2);
    Due.due("what is there now", x.cell(0, 70, 0), 700);
    Due.due("subscribe", x.subscribe(0, 255, 255, 3), REFUSED);
    Due.due("subscribe", x.subscribe(0, 255, 255, 1), 0);
    Due.due("take", x.take(0), 1);
    Due.due("take", x.take(0), NONE);
  }

  private static void crashOfNothing() {
    Due.sentence("Promise 7", "POWER IS LOST, with the first n bytes of the log behind what is kept: how many events are left.");
    Due.due("a new object", new EventLedger().crash(0), 0);
    Due.due("a new object", new EventLedger().crash(MAX), 0);
    EventLedger x = new EventLedger();
    Due.batch(x, 0, 3);
    Due.due("without a keep", x.crash(55), 0);
    Due.due("bytes", x.count(2), 0);
    Due.batch(x, 0, 3);
    Due.due("without a keep", x.crash(56), 3);
    Due.due("nothing behind", x.crash(0), 3);
    Due.due("nothing behind", x.crash(1), 3);
    Due.due("nothing behind", x.crash(MAX), 3);
  }

  private static void crashTakesTheBatch() {
    Due.sentence("Promise 7", "What is made up as a batch goes, too; the TAPE stays.");
    EventLedger x = new EventLedger();
    Due.batch(x, 0, 1);
    Due.tape(x, COUNTING);
    x.stage(1, 1, 1);
    x.stage(2, 2, 2);
    Due.due("keep", x.keep(), 1);
    Due.due("crash", x.crash(MAX), 1);
    Due.due("gone", x.append(0, -1), NONE);
    Due.due("another one", x.stage(3, 3, 3), 1);
    Due.due("it came alone", x.append(0, -1), 1);
    Due.due("events", x.count(0), 2);
    Due.due("the tape stays", x.end(COUNTING.length() + 1), REFUSED);
    Due.due("the tape stays", x.define(2), NONE);
  }

  private static void crashIsRefused() {
    Due.sentence("Promise 7", "REFUSED if n is below 0.");
    EventLedger x = new EventLedger();
    Due.batch(x, 0, 6);
    x.keep();
    Due.batch(x, 0, 2);
    Due.program(x, 0, COUNTING);
    Due.due("run", x.run(0, 3), 3);
    Due.due("subscribe", x.subscribe(0, 255, 255, 0), 0);
    Due.due("take", x.take(0), 0);
    x.stage(0, 0, 0);
    Due.changesNothing("crash", x, () -> {
      Due.due("-1", x.crash(-1), REFUSED);
      Due.due("the least", x.crash(MIN), REFUSED);
    });
    Due.due("the batch stays", x.stage(0, 0, 0), 2);
    Due.due("what is OUT stays", x.tell(0, 0, true), 0);
    Due.due("the program stays", x.run(0, 600), 5);
  }

  private static void foldsAsAtKeep() {
    Due.sentence("POWER LOST", "Folds, their programs, places and cells, and readers are, however often, as they were at the latest keep");
    EventLedger x = new EventLedger();
    Due.batch(x, 0, 4);
    Due.program(x, 0, "by key; on any: a = a + 10;");
    Due.due("run", x.run(0, 1), 1);
    x.keep();
    Due.due("run", x.run(0, 2), 2);
    x.keep();
    for (int round = 0; round < 4; round++) {
      if (round == 0) Due.due("run", x.run(0, 600), 1);
      if (round == 1) Due.due("rewind", x.rewind(0), 3);
      if (round == 2) Due.program(x, 0, "by all; on any: b = 7;");
      if (round == 2) Due.due("run", x.run(0, 600), 4);
      if (round == 3) Due.due("nothing was done", x.fold(0, 0), 3);
      Due.program(x, 5, COUNTING);
      Due.due("crash", x.crash(0), 4);
      Due.due("place", x.fold(0, 0), 3);
      Due.due("cells", x.fold(0, 1), 3);
      for (int key = 0; key < 3; key++) Due.due("cell", x.cell(0, key, 0), 10);
      Due.due("no cell", x.cell(0, 3, 0), Due.ABSENT);
      Due.due("no program", x.fold(5, 0), -1);
    }
    Due.due("its program", x.run(0, 600), 1);
    Due.due("its program", x.cell(0, 3, 0), 10);
    partsAsAtKeep();
  }

  /** Behind the keep a cell comes ahead of the others, and one that is kept goes. */
  private static void partsAsAtKeep() {
    EventLedger x = new EventLedger();
    int[] keys = {50, 60, 70, 10, 60};
    for (int i = 0; i < 5; i++) Due.event(x, 0, i == 4 ? 1 : 0, keys[i], i);
    Due.program(x, 0, "by key; on 0: a = value, h = key; on 1: forget;");
    Due.due("run", x.run(0, 3), 3);
    x.keep();
    for (int round = 0; round < 2; round++) {
      Due.due("run", x.run(0, 600), 2);
      Due.due("the first", x.part(0, 0), 10);
      Due.due("the second", x.part(0, 1), 50);
      Due.due("one went", x.cell(0, 60, 0), Due.ABSENT);
      Due.due("crash", x.crash(0), 5);
      Due.due("cells", x.fold(0, 1), 3);
      for (int k = 0; k < 3; k++) {
        Due.due("part", x.part(0, k), keys[k]);
        Due.due("a", x.cell(0, keys[k], 0), k);
        Due.due("h", x.cell(0, keys[k], 7), keys[k]);
      }
      Due.due("one did not come", x.cell(0, 10, 0), Due.ABSENT);
    }
  }

  private static void readersAsAtKeep() {
    Due.sentence("POWER LOST", "and readers are, however often, as they were at the latest keep");
    EventLedger x = new EventLedger();
    Due.batch(x, 0, 6);
    Due.due("subscribe", x.subscribe(0, 255 - 8, 255, 0), 0);
    Due.due("take", x.take(0), 0);
    Due.due("take", x.take(0), 1);
    Due.due("back", x.tell(0, 1, false), 1);
    Due.due("take", x.take(0), 1);
    x.keep();
    for (int round = 0; round < 4; round++) {
      if (round == 0) Due.due("park", x.tell(0, 1, false), 1);
      if (round == 0) Due.due("take", x.take(0), 1);
      if (round == 0) Due.due("park", x.tell(0, 1, false), 1);
      if (round == 0) Due.due("parked", x.reader(0, 3), 1);
      if (round == 1) Due.due("done", x.tell(0, 0, true), NONE);
      if (round == 1) Due.due("take", x.take(0), 0);
      if (round == 1) Due.due("done", x.tell(0, 0, true), 0);
      if (round == 2) Due.due("subscribe", x.subscribe(0, 0, 0, 5), 0);
      if (round == 3) Due.due("nothing was done", x.reader(0, 2), 2);
      Due.due("crash", x.crash(0), 6);
      Due.due("next", x.reader(0, 0), 2);
      Due.due("out", x.reader(0, 1), 0);
      Due.due("back", x.reader(0, 2), 2);
      Due.due("parked", x.reader(0, 3), 0);
    }
    int[] want = {0, 1, 2, 4};
    for (int event : want) Due.due("its kinds and streams", x.take(0), event);
    Due.due("given twice by then", x.tell(0, 0, false), 3);
    Due.due("given three times by then", x.tell(0, 1, false), 2);
    Due.due("back", x.reader(0, 2), 1);
    Due.due("parked", x.parked(0, 0), 1);
  }

  private static void asAtFirst() {
    Due.sentence("POWER LOST", "(as at first, without one)");
    EventLedger x = new EventLedger();
    Due.batch(x, 0, 2);
    for (int f = 0; f < 6; f++) {
      Due.program(x, f, COUNTING);
      Due.due("run", x.run(f, 1), 1);
    }
    for (int r = 0; r < 8; r++) {
      Due.due("subscribe", x.subscribe(r, 255, 255, 1), 0);
      Due.due("take", x.take(r), 1);
    }
    Due.due("crash", x.crash(40), 2);
    for (int f = 0; f < 6; f++) {
      Due.due("no program", x.fold(f, 0), -1);
      Due.due("no cells", x.fold(f, 1), 0);
      Due.due("no program", x.run(f, 1), NONE);
    }
    for (int r = 0; r < 8; r++) {
      for (int what = 0; what < 4; what++) Due.due("reader", x.reader(r, what), 0);
      Due.due("no kinds and streams", x.take(r), NONE);
    }
  }

  private static void outIsBack() {
    Due.sentence("POWER LOST", "what was OUT is BACK");
    EventLedger x = new EventLedger();
    Due.batch(x, 0, 6);
    Due.batch(x, 0, 6);
    Due.due("subscribe", x.subscribe(7, 255, 255, 0), 0);
    for (int i = 0; i < 8; i++) Due.due("take", x.take(7), i);
    Due.due("full", x.take(7), FULL);
    x.keep();
    Due.due("still out", x.reader(7, 1), 8);
    Due.due("still full", x.take(7), FULL);
    for (int round = 0; round < 2; round++) {
      Due.due("crash", x.crash(0), 12);
      Due.due("out", x.reader(7, 1), 0);
      Due.due("back", x.reader(7, 2), 8);
      Due.due("next", x.reader(7, 0), 8);
      Due.due("not out", x.tell(7, 0, true), NONE);
      for (int i = 0; i < 8; i++) Due.due("take", x.take(7), i);
      Due.due("full", x.take(7), FULL);
    }
    Due.due("given twice", x.tell(7, 3, false), 7);
    Due.due("back", x.reader(7, 2), 1);
    x.keep();
    Due.due("crash", x.crash(0), 12);
    Due.due("all are back", x.reader(7, 2), 8);
    for (int i = 0; i < 8; i++) Due.due("take", x.take(7), i);
    Due.due("given three times", x.tell(7, 3, false), 7);
    Due.due("parked", x.parked(7, 0), 3);
  }

  private static void crashIsNoKeep() {
    Due.sentence("POWER LOST", "as they were at the latest keep");
    EventLedger x = new EventLedger();
    Due.batch(x, 0, 2);
    Due.program(x, 0, COUNTING);
    Due.due("run", x.run(0, 2), 2);
    Due.due("subscribe", x.subscribe(0, 255, 255, 0), 0);
    x.keep();
    Due.batch(x, 0, 2);
    Due.due("crash", x.crash(40), 4);
    Due.due("run", x.run(0, 600), 2);
    for (int i = 0; i < 3; i++) Due.due("take", x.take(0), i);
    Due.batch(x, 0, 1);
    Due.due("crash", x.crash(24), 5);
    Due.due("place", x.fold(0, 0), 2);
    Due.due("cell", x.cell(0, 0, 0), 2);
    Due.due("next", x.reader(0, 0), 0);
    Due.due("nothing is back", x.reader(0, 2), 0);
    Due.due("kept ones", x.count(1), 5);
  }
}
