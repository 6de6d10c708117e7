/** Promises 2 and 3: feed and end. */
public final class TapeTest {
  private static final String GOOD = "by all; on any: a=1;";

  public static void main(String[] args) {
    feedCountsBytes();
    feedIsFull();
    endCuts();
    highestByteComesFirst();
    Due.finish();
  }

  private static void feedCountsBytes() {
    EventLedger x = new EventLedger();
    Due.due("feed", x.feed(0, 0, 0, 0, 0), 20);
    Due.due("feed", x.feed(-1, -1, -1, -1, -1), 40);
    Due.due("a crash leaves the tape", x.crash(0), 0);
    Due.due("feed", x.feed(1, 2, 3, 4, 5), 60);
  }

  private static void feedIsFull() {
    EventLedger x = new EventLedger();
    for (int i = 1; i <= 60; i++) Due.due("feed " + i, x.feed(i, i, i, i, i), 20 * i);
    Due.due("feed 61", x.feed(0, 0, 0, 0, 0), EventLedger.FULL);
    Due.due("end", x.end(1181), 1181);
    Due.due("feed above 1180", x.feed(0, 0, 0, 0, 0), EventLedger.FULL);
    Due.due("end", x.end(1180), 1180);
    Due.due("feed at 1180", x.feed(0, 0, 0, 0, 0), 1200);
    Due.due("end", x.end(1200), 1200);
  }

  private static void endCuts() {
    EventLedger x = new EventLedger();
    Due.due("end", x.end(-1), EventLedger.REFUSED);
    Due.due("end", x.end(Integer.MIN_VALUE), EventLedger.REFUSED);
    Due.due("end", x.end(1), EventLedger.REFUSED);
    Due.due("feed", x.feed(0, 0, 0, 0, 0), 20);
    Due.due("end", x.end(21), EventLedger.REFUSED);
    Due.due("end", x.end(20), 20);
    Due.due("end", x.end(7), 7);
    Due.due("end", x.end(8), EventLedger.REFUSED);
    Due.due("end", x.end(Integer.MAX_VALUE), EventLedger.REFUSED);
    Due.due("feed", x.feed(0, 0, 0, 0, 0), 27);
    Due.due("end", x.end(0), 0);
    Due.due("end", x.end(0), 0);
  }

  private static void highestByteComesFirst() {
    EventLedger x = new EventLedger();
    Due.program(x, 0, GOOD);
    Due.due("the tape is empty behind define", x.end(1), EventLedger.REFUSED);
    Due.due("define of an empty tape", x.define(0), 0);
    Due.due("fault", Due.define(x, 0, "by all; on any: a=1$"), 19);
    Due.due("the tape is empty behind a fault", x.end(1), EventLedger.REFUSED);
    Due.due("fault in the byte behind", Due.define(x, 0, GOOD + "\u00ff"), 20);
    Due.tape(x, GOOD);
    Due.due("end stays as it was cut", x.end(19), 19);
    Due.due("define", x.define(0), 19);
  }
}
