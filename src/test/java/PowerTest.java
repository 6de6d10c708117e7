/** Promises 6, 7 and 21: keep, crash and count. */
public final class PowerTest {
  public static void main(String[] args) {
    countsOfTheLog();
    cutAtEveryByte();
    whatIsLeftIsKept();
    foldsComeBack();
    everyFoldAndReader();
    foldsWithoutKeep();
    readersComeBack();
    readersWithoutKeep();
    givenIsKept();
    Due.finish();
  }

  private static void batch(EventLedger x, int stream, int events) {
    for (int i = 0; i < events; i++) x.stage(i, i, i);
    Due.due("append", x.append(stream, -1), x.count(0) - events);
  }

  private static void counts(EventLedger x, int events, int kept, int bytes, int behind) {
    Due.due("events", x.count(0), events);
    Due.due("kept", x.count(1), kept);
    Due.due("bytes", x.count(2), bytes);
    Due.due("bytes behind", x.count(3), behind);
  }

  private static void countsOfTheLog() {
    EventLedger x = new EventLedger();
    batch(x, 0, 1);
    counts(x, 1, 0, 24, 24);
    batch(x, 7, 6);
    counts(x, 7, 0, 128, 128);
    Due.due("keep", x.keep(), 7);
    counts(x, 7, 7, 128, 0);
    batch(x, 7, 2);
    counts(x, 9, 7, 168, 40);
    Due.due("version of 0", x.count(4), 1);
    Due.due("version of 7", x.count(11), 8);
    for (int what = 5; what < 11; what++) Due.due("version", x.count(what), 0);
    Due.due("others", x.count(12), EventLedger.REFUSED);
    Due.due("others", x.count(-1), EventLedger.REFUSED);
    Due.due("others", x.count(Integer.MIN_VALUE), EventLedger.REFUSED);
    Due.due("others", x.count(Integer.MAX_VALUE), EventLedger.REFUSED);
  }

  /** Behind what is kept batches of 24, 56 and 40 bytes. */
  private static void cutAtEveryByte() {
    for (int n = 0; n <= 130; n++) {
      EventLedger x = new EventLedger();
      batch(x, 1, 2);
      x.keep();
      batch(x, 0, 1);
      batch(x, 1, 3);
      batch(x, 0, 2);
      int left = 2 + (n >= 24 ? 1 : 0) + (n >= 80 ? 3 : 0) + (n >= 120 ? 2 : 0);
      int batches = 1 + (n >= 24 ? 1 : 0) + (n >= 80 ? 1 : 0) + (n >= 120 ? 1 : 0);
      Due.due("crash " + n, x.crash(n), left);
      counts(x, left, left, batches * 8 + left * 16, 0);
      Due.due("version of 0", x.count(4), (n >= 24 ? 1 : 0) + (n >= 120 ? 2 : 0));
      Due.due("version of 1", x.count(5), 2 + (n >= 80 ? 3 : 0));
      batch(x, 1, 1);
      Due.due("the next has the number that is free", x.latest(1, 0), left);
    }
    EventLedger x = new EventLedger();
    batch(x, 0, 1);
    Due.due("below 0", x.crash(-1), EventLedger.REFUSED);
    Due.due("below 0", x.crash(Integer.MIN_VALUE), EventLedger.REFUSED);
    counts(x, 1, 0, 24, 24);
    Due.due("more than there is", x.crash(Integer.MAX_VALUE), 1);
    counts(x, 1, 1, 24, 0);
  }

  private static void whatIsLeftIsKept() {
    EventLedger x = new EventLedger();
    batch(x, 0, 1);
    batch(x, 0, 1);
    Due.due("crash", x.crash(24), 1);
    Due.due("it is kept", x.crash(0), 1);
    batch(x, 0, 1);
    Due.due("bytes are counted from it", x.crash(23), 1);
    batch(x, 0, 1);
    Due.due("bytes are counted from it", x.crash(24), 2);
  }

  private static void foldsComeBack() {
    EventLedger x = new EventLedger();
    batch(x, 0, 4);
    Due.program(x, 2, "by key; on any: a = a + value + 1;");
    Due.due("run", x.run(2, 2), 2);
    x.keep();
    for (int round = 0; round < 3; round++) {
      Due.due("run", x.run(2, 600), 2 + round);
      Due.program(x, 3, "by all; on any: a = 1;");
      if (round == 1) Due.program(x, 2, "by all; on any: b = 1;");
      if (round == 2) x.rewind(2);
      batch(x, 0, 1);
      Due.due("crash", x.crash(24), 5 + round);
      Due.due("place", x.fold(2, 0), 2);
      Due.due("cells", x.fold(2, 1), 2);
      Due.due("cell", x.cell(2, 1, 0), 2);
      Due.due("no cell", x.cell(2, 2, 0), Due.ABSENT);
      Due.due("no program", x.fold(3, 0), -1);
    }
    Due.due("its program", x.run(2, 1), 1);
    Due.due("its program", x.cell(2, 2, 0), 3);
  }

  private static void everyFoldAndReader() {
    EventLedger x = new EventLedger();
    batch(x, 0, 6);
    for (int f = 0; f < 6; f++) {
      Due.program(x, f, "by all; on any: a = a + 1;");
      Due.due("run", x.run(f, f), f);
    }
    for (int r = 0; r < 8; r++) x.subscribe(r, 255, 255, r % 6);
    x.keep();
    for (int f = 0; f < 6; f++) x.run(f, 600);
    for (int r = 0; r < 8; r++) x.take(r);
    x.crash(0);
    for (int f = 0; f < 6; f++) Due.due("place", x.fold(f, 0), f);
    for (int r = 0; r < 8; r++) Due.due("next", x.reader(r, 0), r % 6);
  }

  private static void foldsWithoutKeep() {
    EventLedger x = new EventLedger();
    batch(x, 0, 2);
    Due.program(x, 0, "by all; on any: a = 1;");
    x.run(0, 1);
    Due.due("crash", x.crash(1000), 2);
    Due.due("as at first", x.fold(0, 0), -1);
    Due.due("as at first", x.fold(0, 1), 0);
    Due.due("as at first", x.run(0, 1), EventLedger.NONE);
  }

  private static void readersComeBack() {
    EventLedger x = new EventLedger();
    batch(x, 0, 6);
    x.subscribe(5, 255, 255, 1);
    for (int i = 1; i <= 3; i++) Due.due("take", x.take(5), i);
    x.tell(5, 2, false);
    x.keep();
    for (int round = 0; round < 3; round++) {
      if (round == 1) x.subscribe(5, 1, 1, 0);
      x.take(5);
      x.take(5);
      x.tell(5, 1, true);
      x.tell(5, 3, true);
      Due.due("crash", x.crash(0), 6);
      Due.due("next", x.reader(5, 0), 4);
      Due.due("out", x.reader(5, 1), 0);
      Due.due("back", x.reader(5, 2), 3);
      Due.due("parked", x.reader(5, 3), 0);
    }
    Due.due("not out", x.tell(5, 1, true), EventLedger.NONE);
    for (int i = 1; i <= 4; i++) Due.due("take", x.take(5), i);
    Due.due("out", x.reader(5, 1), 4);
  }

  private static void readersWithoutKeep() {
    EventLedger x = new EventLedger();
    batch(x, 0, 2);
    x.subscribe(0, 255, 255, 0);
    Due.due("take", x.take(0), 0);
    x.crash(100);
    Due.due("next", x.reader(0, 0), 0);
    Due.due("out", x.reader(0, 1), 0);
    Due.due("back", x.reader(0, 2), 0);
    Due.due("no kinds", x.take(0), EventLedger.NONE);
    Due.due("next", x.reader(0, 0), 2);
  }

  private static void givenIsKept() {
    EventLedger x = new EventLedger();
    batch(x, 0, 1);
    x.subscribe(0, 255, 255, 0);
    Due.due("first", x.take(0), 0);
    Due.due("back", x.tell(0, 0, false), 0);
    Due.due("second", x.take(0), 0);
    x.keep();
    for (int round = 0; round < 3; round++) {
      x.crash(0);
      Due.due("back", x.reader(0, 2), 1);
      Due.due("third", x.take(0), 0);
    }
    Due.due("parked", x.tell(0, 0, false), 0);
    Due.due("parked", x.reader(0, 3), 1);
    x.crash(0);
    Due.due("not parked at the keep", x.reader(0, 3), 0);
    Due.due("third", x.take(0), 0);
    x.keep();
    x.crash(0);
    Due.due("fourth", x.take(0), 0);
    Due.due("given more than 3 times", x.tell(0, 0, false), 0);
    Due.due("parked", x.parked(0, 0), 0);
    x.keep();
    x.crash(0);
    Due.due("parked stays", x.parked(0, 0), 0);
  }
}
