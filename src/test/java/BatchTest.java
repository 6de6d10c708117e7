/** Promises 4, 5, 8 and 9: stage, append, event and latest. */
public final class BatchTest {
  public static void main(String[] args) {
    stageFills();
    appendChecksInOrder();
    appendKeepsWhatItRefuses();
    eventsByStream();
    latestOfKey();
    Due.finish();
  }

  private static void stageFills() {
    EventLedger x = new EventLedger();
    Due.due("kind", x.stage(-1, 0, 0), EventLedger.REFUSED);
    Due.due("kind", x.stage(8, 0, 0), EventLedger.REFUSED);
    for (int i = 1; i <= 6; i++) Due.due("stage " + i, x.stage(i + 1, i, -i), i);
    Due.due("seventh", x.stage(0, 0, 0), EventLedger.FULL);
    Due.due("wrong kind ahead of full", x.stage(8, 0, 0), EventLedger.REFUSED);
    Due.due("not yet an event", x.count(0), 0);
    Due.due("append", x.append(7, 0), 0);
    Due.due("another batch", x.stage(0, 0, 0), 1);
    Due.due("a keep leaves it", x.keep(), 6);
    Due.due("stage", x.stage(0, 0, 0), 2);
    Due.due("a crash takes it", x.crash(0), 6);
    Due.due("stage", x.stage(0, 0, 0), 1);
    Due.due("a crash that is refused leaves it", x.crash(-1), EventLedger.REFUSED);
    Due.due("stage", x.stage(0, 0, 0), 2);
  }

  private static void appendChecksInOrder() {
    EventLedger x = new EventLedger();
    Due.due("stream ahead of no events", x.append(8, 0), EventLedger.REFUSED);
    Due.due("stream", x.append(-1, 0), EventLedger.REFUSED);
    Due.due("no events ahead of version", x.append(0, 5), EventLedger.NONE);
    x.stage(0, 0, 0);
    x.stage(0, 0, 0);
    Due.due("version", x.append(0, 1), EventLedger.WRONG);
    Due.due("version", x.append(0, -2), EventLedger.WRONG);
    Due.due("version", x.append(0, Integer.MIN_VALUE), EventLedger.WRONG);
    Due.due("append", x.append(0, 0), 0);
    x.stage(0, 0, 0);
    Due.due("version", x.append(0, 0), EventLedger.WRONG);
    Due.due("the version of another stream", x.append(1, 2), EventLedger.WRONG);
    Due.due("append", x.append(0, 2), 2);
    x.stage(0, 0, 0);
    Due.due("any version", x.append(1, -1), 3);
    Due.due("versions", x.count(4), 3);
    Due.due("versions", x.count(5), 1);
    Due.due("begun anew", x.append(1, 1), EventLedger.NONE);
  }

  private static void appendKeepsWhatItRefuses() {
    EventLedger x = new EventLedger();
    x.stage(3, 30, 300);
    x.append(0, 1);
    x.append(8, -1);
    Due.due("stage", x.stage(4, 40, 400), 2);
    Due.due("nothing came", x.count(0), 0);
    Due.due("append", x.append(5, 0), 0);
    Due.due("kind", x.event(5, 0, 1), 3);
    Due.due("kind", x.event(5, 1, 1), 4);
  }

  private static void eventsByStream() {
    EventLedger x = new EventLedger();
    x.stage(1, 10, 100);
    x.stage(2, 20, 200);
    x.append(3, -1);
    x.stage(7, Integer.MIN_VALUE, Integer.MAX_VALUE);
    x.append(0, -1);
    x.stage(0, -1, -2);
    x.append(3, -1);
    long[][] want = {{0, 1, 10, 100}, {1, 2, 20, 200}, {3, 0, -1, -2}};
    for (int version = 0; version < 3; version++) {
      for (int what = 0; what < 4; what++) {
        Due.due("event " + version + " " + what, x.event(3, version, what), want[version][what]);
      }
    }
    Due.due("number", x.event(0, 0, 0), 2);
    Due.due("kind", x.event(0, 0, 1), 7);
    Due.due("key", x.event(0, 0, 2), Integer.MIN_VALUE);
    Due.due("value", x.event(0, 0, 3), Integer.MAX_VALUE);
    Due.due("no such version", x.event(3, 3, 0), Due.ABSENT);
    Due.due("no such version", x.event(3, -1, 0), Due.ABSENT);
    Due.due("no event of the stream", x.event(1, 0, 0), Due.ABSENT);
    Due.due("another stream", x.event(8, 0, 0), Due.ABSENT);
    Due.due("another stream", x.event(-1, 0, 0), Due.ABSENT);
    Due.due("another what", x.event(3, 0, 4), Due.ABSENT);
    Due.due("another what", x.event(3, 0, -1), Due.ABSENT);
  }

  private static void latestOfKey() {
    EventLedger x = new EventLedger();
    Due.due("none", x.latest(0, 0), EventLedger.NONE);
    x.stage(0, 5, 0);
    x.stage(1, 6, 0);
    x.stage(2, 5, 0);
    x.append(2, -1);
    Due.event(x, 4, 0, 5, 0);
    Due.event(x, 2, 0, 7, 0);
    Due.due("latest", x.latest(2, 5), 2);
    Due.due("latest", x.latest(2, 6), 1);
    Due.due("latest", x.latest(2, 7), 4);
    Due.event(x, 2, 0, 5, 0);
    Due.due("latest", x.latest(2, 5), 5);
    Due.due("latest", x.latest(4, 5), 3);
    Due.due("no such key", x.latest(2, 8), EventLedger.NONE);
    Due.due("of another stream alone", x.latest(4, 6), EventLedger.NONE);
    Due.due("another stream", x.latest(8, 5), EventLedger.REFUSED);
    Due.due("another stream", x.latest(-1, 5), EventLedger.REFUSED);
    x.crash(0);
    Due.due("gone", x.latest(2, 5), EventLedger.NONE);
    Due.event(x, 2, 0, 5, 0);
    Due.due("the very first", x.latest(2, 5), 0);
  }
}
