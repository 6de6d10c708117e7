/** A test for each sentence on an edge of the tape, batches, events and the log: THE TAPE to KEPT, promises 1 to 5, 8, 9, 21. */
public final class EdgesOfLogTest {
  private static final int MIN = Integer.MIN_VALUE;
  private static final int MAX = Integer.MAX_VALUE;
  private static final int REFUSED = EventLedger.REFUSED;
  private static final int NONE = EventLedger.NONE;
  private static final int FULL = EventLedger.FULL;
  private static final int WRONG = EventLedger.WRONG;

  private static final int[] NO_EIGHTH = {-1, 8, MIN, MAX};
  private static final int BLANKS = 0x20202020;
  private static final String PROGRAM = "by all; on any: a=1;";

  public static void main(String[] args) {
    theTape();
    newObject();
    feed();
    end();
    events();
    batches();
    stage();
    append();
    appendIsFull();
    appendLeavesTheBatch();
    event();
    latest();
    theLog();
    count();
    calls512();
    Due.finish();
  }

  private static int blanks(EventLedger x) {
    return x.feed(BLANKS, BLANKS, BLANKS, BLANKS, BLANKS);
  }

  private static void theTape() {
    Due.sentence("THE TAPE", "THE TAPE has bytes, none at first");
    EventLedger x = new EventLedger();
    Due.due("end", x.end(1), REFUSED);
    Due.due("end", x.end(0), 0);
    Due.due("feed", blanks(x), 20);
    Due.due("the end of an empty text", new EventLedger().define(0), 0);

    Due.sentence("THE TAPE", "at most 1200");
    String longest = PROGRAM + Due.repeat(" ", 1179) + ";";
    Due.due("the last byte counts", Due.define(new EventLedger(), 0, longest), 1199);
    Due.due("1200 bytes", Due.define(new EventLedger(), 0, PROGRAM + Due.repeat(" ", 1180)), NONE);
    Due.due("something is missing behind 1200", Due.define(new EventLedger(), 0, "by all;" + Due.repeat(" ", 1193)), 1200);

    Due.sentence("THE TAPE", "calls that read it empty it");
    EventLedger y = new EventLedger();
    Due.program(y, 0, PROGRAM);
    Due.due("end", y.end(1), REFUSED);
    Due.due("feed", blanks(y), 20);
    Due.due("a fault", y.define(0), 20);
    Due.due("end", y.end(1), REFUSED);
    Due.due("feed", blanks(y), 20);
    otherCallsLeaveTheTape();
  }

  private static void otherCallsLeaveTheTape() {
    EventLedger x = new EventLedger();
    Due.tape(x, PROGRAM);
    x.stage(0, 0, 0);
    x.append(0, 0);
    x.keep();
    x.event(0, 0, 0);
    x.latest(0, 0);
    x.run(0, 1);
    x.rewind(0);
    x.cell(0, 0, 0);
    x.part(0, 0);
    x.fold(0, 0);
    x.subscribe(0, 255, 255, 0);
    x.take(0);
    x.tell(0, 0, true);
    x.reader(0, 0);
    x.parked(0, 0);
    x.count(0);
    x.crash(0);
    Due.due("not more", x.end(21), REFUSED);
    Due.due("not less", x.end(20), 20);
    Due.due("and the same", x.define(0), NONE);
  }

  private static void newObject() {
    Due.sentence("Promise 1", "No events, no programs.");
    EventLedger x = new EventLedger();
    for (int what = 0; what < 12; what++) Due.due("count", x.count(what), 0);
    for (int s = 0; s < 8; s++) {
      Due.due("event", x.event(s, 0, 0), Due.ABSENT);
      Due.due("latest", x.latest(s, 0), NONE);
    }
    for (int f = 0; f < 6; f++) {
      Due.due("fold", x.fold(f, 0), -1);
      Due.due("run", x.run(f, 0), NONE);
    }
    Due.due("append", x.append(0, 0), NONE);
  }

  private static void feed() {
    Due.sentence("Promise 2", "Twenty bytes, five times four, the highest of each first, come to the TAPE");
    int[] faulty = {0, '$', 127, 128, 255};
    for (int at = 0; at < 20; at++) {
      for (int fault : faulty) {
        int[] words = {BLANKS, BLANKS, BLANKS, BLANKS, BLANKS};
        int shift = 24 - at % 4 * 8;
        words[at / 4] = words[at / 4] & ~(255 << shift) | fault << shift;
        EventLedger x = new EventLedger();
        Due.due("feed", x.feed(words[0], words[1], words[2], words[3], words[4]), 20);
        Due.due("the place of byte " + fault, x.define(0), at);
      }
    }

    Due.sentence("Promise 2", "how many it has");
    EventLedger x = new EventLedger();
    for (int i = 1; i <= 60; i++) Due.due("feed", blanks(x), 20 * i);

    Due.sentence("Promise 2", "FULL if it would have more than 1200.");
    Due.due("at 1200", blanks(x), FULL);
    Due.due("end", x.end(1181), 1181);
    Due.due("at 1181", x.feed(-1, -1, -1, -1, -1), FULL);
    Due.due("nothing came", x.end(1182), REFUSED);
    Due.due("end", x.end(1180), 1180);
    Due.due("at 1180", blanks(x), 1200);
    Due.due("nothing of what was refused", x.define(0), 1200);
  }

  private static void end() {
    Due.sentence("Promise 3", "The TAPE is cut to its first n bytes: n");
    for (int n = 0; n <= 20; n++) {
      EventLedger x = new EventLedger();
      Due.due("feed", blanks(x), 20);
      Due.due("end", x.end(n), n);
      Due.due("not more", x.end(n + 1), REFUSED);
      Due.due("what comes then is behind it", x.feed(-1, -1, -1, -1, -1), n + 20);
      Due.due("the first bytes stay", x.define(0), n);
    }

    Due.sentence("Promise 3", "REFUSED if it has less");
    EventLedger x = new EventLedger();
    Due.due("of none", x.end(1), REFUSED);
    Due.due("feed", blanks(x), 20);
    Due.due("one less", x.end(21), REFUSED);
    Due.due("the greatest", x.end(MAX), REFUSED);
    Due.due("it stays", x.end(20), 20);

    Due.sentence("Promise 3", "or n is below 0");
    Due.due("-1", x.end(-1), REFUSED);
    Due.due("the least", x.end(MIN), REFUSED);
    Due.due("it stays", x.end(20), 20);
  }

  private static void events() {
    Due.sentence("EVENTS", "EVENTS are numbered from 0 as they come");
    EventLedger x = new EventLedger();
    Due.due("the first", Due.batch(x, 7, 2), 0);
    Due.due("of another stream", Due.batch(x, 0, 1), 2);
    Due.due("of the first stream", Due.batch(x, 7, 1), 3);
    Due.due("number", x.event(7, 1, 0), 1);
    Due.due("number", x.event(0, 0, 0), 2);
    Due.due("number", x.event(7, 2, 0), 3);

    Due.sentence("EVENTS", "each has a STREAM and a KIND, 0 to 7, a KEY and a VALUE, ints");
    EventLedger y = new EventLedger();
    int[] ints = {MIN, MIN + 1, -1, 0, 1, 255, 65536, MAX};
    for (int i = 0; i < 8; i++) Due.event(y, i, 7 - i, ints[i], ints[7 - i]);
    for (int i = 0; i < 8; i++) {
      Due.due("number", y.event(i, 0, 0), i);
      Due.due("kind", y.event(i, 0, 1), 7 - i);
      Due.due("key", y.event(i, 0, 2), ints[i]);
      Due.due("value", y.event(i, 0, 3), ints[7 - i]);
    }

    Due.sentence("VERSION", "VERSION of a stream: how many events it has.");
    EventLedger z = new EventLedger();
    Due.batch(z, 3, 6);
    Due.batch(z, 3, 1);
    Due.batch(z, 4, 2);
    for (int s = 0; s < 8; s++) Due.due("version of " + s, z.count(4 + s), s == 3 ? 7 : s == 4 ? 2 : 0);
  }

  private static void batches() {
    Due.sentence("BATCH", "A BATCH: 1 to 6 events of one stream that come together.");
    Due.due("none", new EventLedger().append(0, -1), NONE);
    for (int n = 1; n <= 6; n++) {
      EventLedger x = new EventLedger();
      Due.due("append", Due.batch(x, 2, n), 0);
      Due.due("events", x.count(0), n);
      Due.due("of one stream", x.count(6), n);
      for (int i = 0; i < n; i++) Due.due("in their order", x.event(2, i, 1), i);
    }
  }

  private static void stage() {
    Due.sentence("Promise 4", "An event (without a stream) comes to the batch that is made up: how many it has.");
    EventLedger x = new EventLedger();
    for (int i = 1; i <= 6; i++) Due.due("stage", x.stage(i, 10 * i, MIN + i), i);
    Due.due("no event yet", x.count(0), 0);
    Due.due("no bytes yet", x.count(2), 0);

    Due.sentence("Promise 4", "else FULL with 6.");
    Due.due("seventh", x.stage(0, 0, 0), FULL);
    Due.due("again", x.stage(7, 0, 0), FULL);
    Due.due("append", x.append(1, 0), 0);
    Due.due("six came", x.count(0), 6);
    for (int i = 1; i <= 6; i++) {
      Due.due("kind", x.event(1, i - 1, 1), i);
      Due.due("key", x.event(1, i - 1, 2), 10 * i);
      Due.due("value", x.event(1, i - 1, 3), MIN + i);
    }

    Due.sentence("Promise 4", "REFUSED if kind is not 0 to 7");
    EventLedger y = new EventLedger();
    for (int kind : NO_EIGHTH) Due.due("kind " + kind, y.stage(kind, 0, 0), REFUSED);
    Due.due("the least kind", y.stage(0, 0, 0), 1);
    for (int kind : NO_EIGHTH) Due.due("kind " + kind, y.stage(kind, 0, 0), REFUSED);
    Due.due("the greatest kind", y.stage(7, 0, 0), 2);
    for (int i = 3; i <= 6; i++) Due.due("stage", y.stage(i, 0, 0), i);
    for (int kind : NO_EIGHTH) Due.due("ahead of FULL " + kind, y.stage(kind, 0, 0), REFUSED);
  }

  private static void append() {
    Due.sentence("Promise 5", "which must have the version expected");
    EventLedger x = new EventLedger();
    x.stage(0, 0, 0);
    x.stage(0, 0, 0);
    Due.due("version 0", x.append(5, 0), 0);
    x.stage(0, 0, 0);
    Due.due("version 2", x.append(5, 2), 2);
    x.stage(0, 0, 0);
    Due.due("version 0 of another", x.append(6, 0), 3);

    Due.sentence("Promise 5", "WRONG for another version");
    x.stage(0, 0, 0);
    int[] others = {-2, 0, 1, 2, 4, 5, MIN, MAX};
    for (int expected : others) Due.due("expected " + expected, x.append(5, expected), WRONG);
    Due.due("nothing came", x.count(0), 4);
    Due.due("nothing came", x.count(9), 3);

    Due.sentence("Promise 5", "(any for -1)");
    Due.due("version 3", x.append(5, -1), 4);
    x.stage(0, 0, 0);
    Due.due("version 0", x.append(7, -1), 5);

    Due.sentence("Promise 5", "the number of its first event; another one is begun");
    x.stage(0, 0, 0);
    x.stage(0, 0, 0);
    Due.due("number", x.append(7, 1), 6);
    Due.due("begun", x.append(7, -1), NONE);
    Due.due("begun", x.stage(0, 0, 0), 1);
    Due.due("number", x.append(7, 3), 8);

    Due.sentence("Promise 5", "REFUSED for another stream");
    for (int stream : NO_EIGHTH) Due.due("ahead of NONE " + stream, x.append(stream, -1), REFUSED);
    x.stage(0, 0, 0);
    for (int stream : NO_EIGHTH) {
      Due.due("any version " + stream, x.append(stream, -1), REFUSED);
      Due.due("version 0 " + stream, x.append(stream, 0), REFUSED);
      Due.due("ahead of WRONG " + stream, x.append(stream, 77), REFUSED);
    }
    Due.due("nothing came", x.count(0), 9);

    Due.sentence("Promise 5", "NONE if it has no events");
    EventLedger y = new EventLedger();
    Due.due("any version", y.append(0, -1), NONE);
    Due.due("version 0", y.append(7, 0), NONE);
    Due.due("ahead of WRONG", y.append(0, 1), NONE);
    Due.due("nothing came", y.count(2), 0);
  }

  /** No object can come so far in 512 calls, and later answers are free: it is asked so that the row of events can not be left. */
  private static void appendIsFull() {
    Due.sentence("Promise 5", "FULL if there were more than 600 events.");
    EventLedger x = new EventLedger();
    for (int i = 0; i < 99; i++) Due.due("append", Due.batch(x, i % 8, 6), 6 * i);
    Due.due("append", Due.batch(x, 0, 5), 594);
    x.stage(1, 11, 111);
    x.stage(2, 22, 222);
    Due.due("601", x.append(0, -1), FULL);
    Due.due("ahead of it", x.append(8, -1), REFUSED);
    Due.due("ahead of it", x.append(0, 1), WRONG);
    Due.due("nothing came", x.count(0), 599);
    Due.due("it stays as it is made up", x.stage(3, 33, 333), 3);
    Due.due("crash", x.crash(MAX), 599);
    x.stage(4, 44, 444);
    Due.due("600", x.append(0, -1), 599);
    Due.due("ahead of it", x.append(0, -1), NONE);
    x.stage(5, 55, 555);
    Due.due("601", x.append(0, -1), FULL);
    Due.due("the last", x.latest(0, 44), 599);

    Due.sentence("EVENTS", "EVENTS are numbered from 0 as they come, at most 600");
    Due.due("events", x.count(0), 600);
    Due.program(x, 0, "by all; on any: a = a + 1, b = place;");
    Due.due("run", x.run(0, 600), 600);
    Due.due("all were taken", x.cell(0, 0, 0), 600);
    Due.due("the last place", x.cell(0, 0, 1), 599);
    Due.due("subscribe behind the last", x.subscribe(0, 255, 255, 600), 0);
    Due.due("take", x.take(0), NONE);
    Due.due("subscribe at the last", x.subscribe(0, 255, 255, 599), 0);
    Due.due("take", x.take(0), 599);
    Due.due("tell", x.tell(0, 599, false), 0);
    Due.due("keep", x.keep(), 600);
    Due.due("crash", x.crash(0), 600);
    Due.due("take", x.take(0), 599);
  }

  private static void appendLeavesTheBatch() {
    Due.sentence("Promise 5", "(Then it stays as it is made up.)");
    EventLedger x = new EventLedger();
    x.stage(3, 30, 300);
    Due.due("append", x.append(8, -1), REFUSED);
    x.stage(4, 40, 400);
    Due.due("append", x.append(0, 1), WRONG);
    Due.due("stage", x.stage(5, 50, 500), 3);
    Due.due("append", x.append(0, 0), 0);
    for (int i = 0; i < 3; i++) {
      Due.due("kind", x.event(0, i, 1), 3 + i);
      Due.due("key", x.event(0, i, 2), 30 + 10 * i);
      Due.due("value", x.event(0, i, 3), 300 + 100 * i);
    }
    Due.due("no more", x.count(0), 3);
  }

  private static void event() {
    EventLedger x = new EventLedger();
    Due.event(x, 6, 7, 1, 2);
    Due.event(x, 1, 5, -3, -4);
    Due.event(x, 6, 0, 5, 6);

    Due.sentence("Promise 8", "by its stream and its number in that, from 0");
    long[][] of6 = {{0, 7, 1, 2}, {2, 0, 5, 6}};
    for (int version = 0; version < 2; version++) {
      for (int what = 0; what < 4; what++) Due.due("of 6", x.event(6, version, what), of6[version][what]);
    }
    Due.due("of 1", x.event(1, 0, 0), 1);
    Due.due("of 1", x.event(1, 0, 2), -3);

    Due.sentence("Promise 8", "2^40 if there is none");
    int[] versions = {-1, 2, 600, MIN, MAX};
    for (int version : versions) {
      for (int what = 0; what < 4; what++) Due.due("version " + version, x.event(6, version, what), Due.ABSENT);
    }
    Due.due("a stream without events", x.event(0, 0, 0), Due.ABSENT);

    Due.sentence("Promise 8", "(also of another stream)");
    for (int stream : NO_EIGHTH) {
      Due.due("stream " + stream, x.event(stream, 0, 0), Due.ABSENT);
      Due.due("stream " + stream, x.event(stream, -1, 3), Due.ABSENT);
    }

    Due.sentence("Promise 8", "or for another what");
    int[] whats = {-1, 4, MIN, MAX};
    for (int what : whats) {
      Due.due("what " + what, x.event(6, 0, what), Due.ABSENT);
      Due.due("none, and what " + what, x.event(6, 2, what), Due.ABSENT);
    }
  }

  private static void latest() {
    EventLedger x = new EventLedger();
    int[] keys = {0, MIN, -1, MAX, 0, MIN};
    for (int i = 0; i < 6; i++) Due.event(x, i % 2 == 0 ? 0 : 7, 0, keys[i], 0);

    Due.sentence("Promise 9", "The number of the latest event of a stream with a key.");
    Due.due("the later of two", x.latest(0, 0), 4);
    Due.due("the later of two", x.latest(7, MIN), 5);
    Due.due("the only one", x.latest(0, -1), 2);
    Due.due("the only one", x.latest(7, MAX), 3);
    EventLedger y = new EventLedger();
    Due.event(y, 4, 0, -1, 0);
    Due.due("number 0", y.latest(4, -1), 0);

    Due.sentence("Promise 9", "REFUSED for another stream; NONE if there is none.");
    for (int stream : NO_EIGHTH) Due.due("stream " + stream, x.latest(stream, 0), REFUSED);
    Due.due("of the other stream alone", x.latest(7, 0), NONE);
    Due.due("of the other stream alone", x.latest(0, MIN), NONE);
    Due.due("no such key", x.latest(0, 1), NONE);
    Due.due("a stream without events", x.latest(1, 0), NONE);
    x.stage(0, 1, 0);
    Due.due("not of the batch that is made up", x.latest(0, 1), NONE);
    Due.due("crash", x.crash(0), 0);
    Due.due("not what is gone", x.latest(0, 0), NONE);
  }

  private static void theLog() {
    Due.sentence("THE LOG", "THE LOG: of each batch 8 bytes, and 16 for each of its events.");
    EventLedger x = new EventLedger();
    int bytes = 0;
    Due.due("none", x.count(2), bytes);
    for (int n = 1; n <= 6; n++) {
      Due.batch(x, n, n);
      bytes += 8 + 16 * n;
      Due.due("bytes", x.count(2), bytes);
    }

    Due.sentence("KEPT", "KEPT are the batches up to the latest keep.");
    Due.due("without a keep", x.count(1), 0);
    Due.due("keep", x.keep(), 21);
    Due.due("kept", x.count(1), 21);
    Due.batch(x, 0, 4);
    Due.due("not yet", x.count(1), 21);
    Due.due("the latest", x.keep(), 25);
    Due.due("kept", x.count(1), 25);
  }

  private static void count() {
    EventLedger x = new EventLedger();
    Due.batch(x, 0, 6);
    x.keep();
    Due.batch(x, 7, 2);
    Due.batch(x, 7, 1);
    x.stage(0, 0, 0);

    Due.sentence("Promise 21", "What 0: events, 1: kept ones, 2: bytes of the log, 3: of them behind what is kept");
    Due.due("events", x.count(0), 9);
    Due.due("kept ones", x.count(1), 6);
    Due.due("bytes", x.count(2), 104 + 40 + 24);
    Due.due("behind", x.count(3), 40 + 24);

    Due.sentence("Promise 21", "4 to 11: the versions of streams 0 to 7");
    for (int s = 0; s < 8; s++) Due.due("version of " + s, x.count(4 + s), s == 0 ? 6 : s == 7 ? 3 : 0);

    Due.sentence("Promise 21", "REFUSED for others.");
    int[] others = {-1, 12, MIN, MIN + 3, MAX};
    for (int what : others) Due.due("what " + what, x.count(what), REFUSED);
  }

  private static void calls512() {
    Due.sentence("What it is", "An object is used for at most 512 calls after it has been made");
    EventLedger x = new EventLedger();
    for (int i = 0; i < 73; i++) Due.due("7 calls", Due.batch(x, 7, 6), 6 * i);
    Due.due("the 512th", x.count(11), 438);
    EventLedger y = new EventLedger();
    for (int i = 0; i < 511; i++) Due.due("an empty text", y.define(i % 6), 0);
    Due.due("the 512th", y.crash(MAX), 0);
    EventLedger z = new EventLedger();
    for (int i = 0; i < 511; i++) Due.due("keep", z.keep(), 0);
    Due.due("the 512th", z.stage(7, MIN, MAX), 1);
  }
}
