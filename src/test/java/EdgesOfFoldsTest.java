/** A test for each sentence on an edge of folds: FOLDS with STUCK, promises 10 to 15. */
public final class EdgesOfFoldsTest {
  private static final int MIN = Integer.MIN_VALUE;
  private static final int MAX = Integer.MAX_VALUE;
  private static final int REFUSED = EventLedger.REFUSED;
  private static final int NONE = EventLedger.NONE;

  private static final int[] NO_FOLD = {-1, 6, 7, MIN, MAX};
  private static final String COUNTING = "by all; on any: a = a + 1;";

  public static void main(String[] args) {
    atFirst();
    placeAndPart();
    firstRule();
    theTestsCell();
    actions();
    forget();
    noRule();
    wrapping();
    dividing();
    operands();
    stuck();
    stuckByWhatIsLeft();
    define();
    run();
    rewind();
    cell();
    part();
    fold();
    lookingChangesNothing();
    Due.finish();
  }

  /** An object with 42 events with the keys 100, 99 and so on, in batches of 6. */
  private static EventLedger keys() {
    EventLedger x = new EventLedger();
    for (int i = 0; i < 42; i++) {
      x.stage(i % 8, 100 - i, i);
      if (i % 6 == 5) Due.due("append", x.append(0, -1), i - 5);
    }
    return x;
  }

  private static void atFirst() {
    Due.sentence("FOLDS", "FOLDS 0 to 5: each has a program, or none at first");
    EventLedger x = new EventLedger();
    Due.batch(x, 0, 6);
    for (int f = 0; f < 6; f++) Due.due("none", x.run(f, 1), NONE);
    for (int f = 0; f < 6; f++) Due.program(x, f, "by all; on any: a = a + " + (f + 1) + ";");
    for (int f = 0; f < 6; f++) Due.due("run", x.run(f, f + 1), f + 1);
    for (int f = 0; f < 6; f++) Due.due("each has its own", x.cell(f, 0, 0), (f + 1) * (f + 1));
    for (int f = 0; f < 6; f++) Due.due("each has its own", x.fold(f, 0), f + 1);
  }

  private static void placeAndPart() {
    Due.sentence("FOLDS", "a PLACE, the number of the next event that it takes, 0 at first");
    EventLedger x = new EventLedger();
    Due.batch(x, 3, 3);
    Due.program(x, 0, "by key; on any: a = place;");
    for (int i = 0; i < 3; i++) {
      Due.due("place", x.fold(0, 0), i);
      Due.due("run", x.run(0, 1), 1);
      Due.due("that was taken", x.cell(0, i, 0), i);
    }
    Due.due("place", x.fold(0, 0), 3);
    Due.due("no event", x.run(0, 1), 0);
    Due.batch(x, 3, 1);
    Due.due("the one that came", x.run(0, 1), 1);

    Due.sentence("FOLDS", "each for a PART (by all: 0)");
    EventLedger y = new EventLedger();
    Due.event(y, 7, 4, MIN, 1);
    String[] by = {"key", "stream", "kind", "all"};
    long[] parts = {MIN, 7, 4, 0};
    for (int f = 0; f < 4; f++) {
      Due.program(y, f, "by " + by[f] + "; on any: a = 1;");
      Due.due("run", y.run(f, 1), 1);
      Due.due("by " + by[f], y.part(f, 0), parts[f]);
      Due.due("one cell", y.part(f, 1), Due.ABSENT);
    }

    Due.sentence("FOLDS", "with VARIABLES a to h, ints");
    Due.program(y, 0, "by all; on any: a = -2147483647 - 1, h = 2147483647;");
    Due.due("run", y.run(0, 1), 1);
    Due.due("a", y.cell(0, 0, 0), MIN);
    Due.due("h", y.cell(0, 0, 7), MAX);
    for (int v = 1; v < 7; v++) Due.due("not set", y.cell(0, 0, v), 0);
  }

  private static void firstRule() {
    Due.sentence("FOLDS", "the first rule whose KINDS and STREAMS have it and whose test, if it has one, is true");
    EventLedger x = new EventLedger();
    for (int i = 0; i < 8; i++) Due.event(x, 7 - i, i, 0, i);
    Due.program(x, 0, "by kind; on 0 7 from 0 1 2: a = 1; on 0 7: a = 2; on any from 0 6: a = 3; on any where value = 3: a = 4;"
        + " on any: a = 5; on any: a = 6;");
    Due.due("run", x.run(0, 600), 8);
    long[] want = {2, 3, 5, 4, 5, 5, 5, 1};
    for (int kind = 0; kind < 8; kind++) Due.due("kind " + kind, x.cell(0, kind, 0), want[kind]);
    for (int bit = 0; bit < 8; bit++) {
      Due.program(x, 1, "by kind; on " + bit + ": a = 1;");
      Due.program(x, 2, "by kind; on any from " + bit + ": a = 1;");
      Due.due("run", x.run(1, 600), 8);
      Due.due("run", x.run(2, 600), 8);
      Due.due("the kind alone", x.part(1, 0), bit);
      Due.due("the kind alone", x.fold(1, 1), 1);
      Due.due("the stream alone", x.part(2, 0), 7 - bit);
      Due.due("the stream alone", x.fold(2, 1), 1);
    }
  }

  private static void theTestsCell() {
    Due.sentence("FOLDS", "(fresh: there is none; all variables are 0 then)");
    EventLedger x = new EventLedger();
    for (int i = 0; i < 4; i++) Due.event(x, 0, 0, i / 2, 0);
    Due.program(x, 0, "by key; on any where fresh and a = 0 and h = 0: a = b + 5, b = h + 1; on any where not fresh: c = a + b;");
    Due.due("run", x.run(0, 3), 3);
    Due.due("a cell that came to be", x.cell(0, 0, 0), 5);
    Due.due("a cell that was there", x.cell(0, 0, 2), 6);
    Due.due("another's variables are not seen", x.cell(0, 1, 0), 5);
    Due.due("another's variables are not seen", x.cell(0, 1, 2), 0);
    Due.program(x, 1, "by key; on any where fresh: a = 0; on any: a = 1;");
    Due.due("run", x.run(1, 4), 4);
    Due.due("a cell of zeros is a cell", x.cell(1, 0, 0), 1);
  }

  private static void actions() {
    Due.sentence("FOLDS", "does its actions, one by one, in that cell, which comes to be by VARIABLE = SUM, if there is none");
    EventLedger x = new EventLedger();
    Due.batch(x, 0, 2);
    Due.program(x, 0, "by key; on any: a = 1, a = a + 1, b = a, a = a * 5, c = a - b, c = -c;");
    Due.due("run", x.run(0, 1), 1);
    long[] want = {10, 2, -8, 0};
    for (int v = 0; v < 4; v++) Due.due("variable " + v, x.cell(0, 0, v), want[v]);
    Due.due("none for another part", x.cell(0, 1, 0), Due.ABSENT);
    Due.program(x, 1, "by key; on any: a = 0;");
    Due.due("run", x.run(1, 1), 1);
    Due.due("by a 0, too", x.cell(1, 0, 0), 0);
    Due.due("cells", x.fold(1, 1), 1);
  }

  private static void forget() {
    Due.sentence("FOLDS", "forget: the cell goes, if there is one (its variables are 0 for what follows)");
    EventLedger x = new EventLedger();
    for (int i = 0; i < 5; i++) Due.event(x, 0, i, 0, 0);
    Due.program(x, 0, "by all; on 0: forget; on 1: a = 3, b = 4; on 2: forget, c = a + b + 1; on 3: forget; on 4: a = 1, forget, forget;");
    Due.due("run", x.run(0, 1), 1);
    Due.due("there was none", x.fold(0, 1), 0);
    Due.due("run", x.run(0, 2), 2);
    long[] want = {0, 0, 1};
    for (int v = 0; v < 3; v++) Due.due("variable " + v, x.cell(0, 0, v), want[v]);
    Due.due("run", x.run(0, 1), 1);
    Due.due("gone", x.cell(0, 0, 0), Due.ABSENT);
    Due.due("gone", x.part(0, 0), Due.ABSENT);
    Due.due("run", x.run(0, 1), 1);
    Due.due("gone at once", x.fold(0, 1), 0);
    Due.program(x, 1, "by kind; on 1: a = 1, forget, a = 2, forget; on 3: forget, a = 1; on any: a = 7;");
    Due.due("run", x.run(1, 5), 5);
    long[] parts = {0, 2, 3, 4};
    for (int k = 0; k < 4; k++) Due.due("part", x.part(1, k), parts[k]);
    Due.due("the others stay", x.cell(1, 0, 0), 7);
    Due.due("the others stay", x.cell(1, 4, 0), 7);
    forgetAmongOthers();
  }

  /** Of five cells the one in the middle goes, then the first, then the last. */
  private static void forgetAmongOthers() {
    EventLedger x = new EventLedger();
    int[] keys = {10, 20, 30, 40, 50, 30, 10, 50};
    for (int i = 0; i < 8; i++) Due.event(x, 0, i < 5 ? 0 : 1, keys[i], i);
    Due.program(x, 0, "by key; on 0: a = value, h = -key; on 1: forget;");
    Due.due("run", x.run(0, 5), 5);
    int[][] left = {{10, 20, 40, 50}, {20, 40, 50}, {20, 40}};
    for (int[] parts : left) {
      Due.due("run", x.run(0, 1), 1);
      Due.due("cells", x.fold(0, 1), parts.length);
      for (int k = 0; k < parts.length; k++) {
        Due.due("part", x.part(0, k), parts[k]);
        Due.due("a", x.cell(0, parts[k], 0), parts[k] / 10 - 1);
        Due.due("h", x.cell(0, parts[k], 7), -parts[k]);
      }
    }
    for (int key = 10; key <= 50; key += 20) Due.due("gone", x.cell(0, key, 0), Due.ABSENT);
  }

  private static void noRule() {
    Due.sentence("FOLDS", "No rule: nothing.");
    EventLedger x = new EventLedger();
    for (int i = 0; i < 3; i++) Due.event(x, i, i, 0, 0);
    Due.program(x, 0, "by all; on 0: a = 9; on 1 from 2: a = 1; on 2 where a = 1: a = 2;");
    Due.due("they are taken", x.run(0, 600), 3);
    Due.due("place", x.fold(0, 0), 3);
    Due.due("cells", x.fold(0, 1), 1);
    Due.due("cell", x.cell(0, 0, 0), 9);
    EventLedger y = new EventLedger();
    for (int i = 0; i < 4; i++) Due.event(y, 0, i, i % 2, 0);
    Due.program(y, 0, "by key; on 0: a = 9; on 3 where not fresh: a = 1;");
    Due.due("for a part without a cell, then for one with", y.run(0, 3), 3);
    Due.due("its cell stays", y.cell(0, 0, 0), 9);
    Due.due("a test that is false", y.run(0, 1), 1);
    Due.due("no cell comes to be", y.cell(0, 1, 0), Due.ABSENT);
    Due.due("cells", y.fold(0, 1), 1);
  }

  /** The value of a sum for an event with the least key and the greatest value. */
  private static void sum(String text, long want) {
    EventLedger x = new EventLedger();
    Due.event(x, 0, 0, MIN, MAX);
    Due.program(x, 0, "by all; on any: a = " + text + ";");
    Due.due("run", x.run(0, 1), 1);
    Due.due(text, x.cell(0, 0, 0), want);
  }

  private static void wrapping() {
    Due.sentence("FOLDS", "Ints wrap");
    sum("value + 1", MIN);
    sum("key - 1", MAX);
    sum("value + value", -2);
    sum("key + key", 0);
    sum("value * value", 1);
    sum("key * key", 0);
    sum("key * -1", MIN);
    sum("value * 2", -2);
    sum("65536 * 65535", -65536);
    sum("-key", MIN);
    sum("- -key", MIN);
    sum("0 - key", MIN);
    sum("key / -1", MIN);
    sum("key % -1", 0);
    sum("least(value + 1, 0)", MIN);
    sum("most(key - 1, 0)", MAX);
    EventLedger x = new EventLedger();
    Due.event(x, 0, 0, MIN, MAX);
    Due.program(x, 0, "by all; on any where value + 1 < value and key - 1 > key and key < value and not key > value: a = 1;");
    Due.due("run", x.run(0, 1), 1);
    Due.due("of tests, too", x.cell(0, 0, 0), 1);
  }

  private static void dividing() {
    Due.sentence("FOLDS", "x / 0 and x % 0 are 0");
    String[] left = {"0", "1", "-1", "key", "value"};
    for (String x : left) {
      sum(x + " / 0", 0);
      sum(x + " % 0", 0);
      sum(x + " / (1 - 1)", 0);
      sum(x + " % b", 0);
    }
    sum("5 / 0 + 7 % 0 + 3", 3);

    Due.sentence("FOLDS", "x / y toward 0, x % y with the sign of x");
    sum("7 / 2", 3);
    sum("-7 / 2", -3);
    sum("7 / -2", -3);
    sum("-7 / -2", 3);
    sum("1 / 2", 0);
    sum("-1 / 2", 0);
    sum("7 % 2", 1);
    sum("-7 % 2", -1);
    sum("7 % -2", 1);
    sum("-7 % -2", -1);
    sum("key % 10", -8);
    sum("value % key", MAX);
    sum("key % value", -1);
    sum("key / value", -1);
    sum("value / key", 0);
  }

  private static void operands() {
    Due.sentence("FOLDS", "kind, stream, key, value: the event's; place: its number");
    EventLedger x = new EventLedger();
    Due.event(x, 0, 0, 0, 0);
    Due.event(x, 7, 6, MIN, MAX);
    Due.program(x, 0, "by all; on any: a = kind, b = stream, c = key, d = value, e = place;");
    long[][] want = {{0, 0, 0, 0, 0}, {6, 7, MIN, MAX, 1}};
    for (int i = 0; i < 2; i++) {
      Due.due("run", x.run(0, 1), 1);
      for (int v = 0; v < 5; v++) Due.due("variable " + v, x.cell(0, 0, v), want[i][v]);
    }
  }

  private static void stuck() {
    Due.sentence("FOLDS", "CELLS, at most 40");
    EventLedger x = keys();
    Due.program(x, 0, "by key; on any: a = place, b = 1;");
    Due.due("run", x.run(0, 39), 39);
    Due.due("not stuck", x.fold(0, 2), 0);
    Due.due("the 40th", x.run(0, 1), 1);
    Due.due("cells", x.fold(0, 1), 40);
    for (int k = 0; k < 40; k++) {
      Due.due("part", x.part(0, k), 61 + k);
      Due.due("cell", x.cell(0, 61 + k, 0), 39 - k);
    }

    Due.sentence("STUCK", "STUCK: an event would leave 41 cells: nothing of it is done, and the place stays.");
    Due.due("stuck", x.fold(0, 2), 1);
    Due.due("run", x.run(0, 1), 0);
    Due.due("run", x.run(0, 600), 0);
    Due.due("place", x.fold(0, 0), 40);
    Due.due("cells", x.fold(0, 1), 40);
    Due.due("nothing of it", x.cell(0, 60, 0), Due.ABSENT);
    Due.due("the least stays", x.part(0, 0), 61);
    Due.due("the greatest stays", x.part(0, 39), 100);
    Due.due("no more", x.part(0, 40), Due.ABSENT);
    for (int key = 61; key <= 100; key += 13) Due.due("the others stay", x.cell(0, key, 0), 100 - key);
  }

  private static void stuckByWhatIsLeft() {
    Due.sentence("STUCK", "an event would leave 41 cells");
    EventLedger x = keys();
    String full = "by key; on any where place < 40: a = 1; ";
    Due.program(x, 0, full + "on any: b = 1, c = 2, forget;");
    Due.due("41 for a while only", x.run(0, 600), 42);
    Due.due("cells", x.fold(0, 1), 40);
    Due.program(x, 1, full + "on any: forget, b = 1;");
    Due.due("41 at its end", x.run(1, 600), 40);
    Due.program(x, 2, full + "on any: forget;");
    Due.due("nothing comes to be", x.run(2, 600), 42);
    Due.program(x, 3, full);
    Due.due("no rule", x.run(3, 600), 42);
    Due.due("append", Due.batch(x, 0, 1), 42);
    x.stage(0, 100, 0);
    x.stage(1, 100, 0);
    x.stage(2, 200, 0);
    Due.due("append", x.append(1, 0), 43);
    Due.program(x, 4, full + "on 0 from 1: a = 7; on 1 from 1: forget; on 2 from 1: a = 9;");
    Due.due("a cell that is there", x.run(4, 44), 44);
    Due.due("a cell that is there", x.cell(4, 100, 0), 7);
    Due.due("one goes", x.run(4, 1), 1);
    Due.due("not stuck with 39", x.fold(4, 2), 0);
    Due.due("and another comes", x.run(4, 1), 1);
    Due.due("and another comes", x.cell(4, 200, 0), 9);
    Due.due("cells", x.fold(4, 1), 40);
  }

  private static void define() {
    Due.sentence("Promise 10", "becomes the program of a fold, whose place is 0 then, without cells: NONE");
    EventLedger x = new EventLedger();
    Due.batch(x, 0, 4);
    Due.program(x, 5, "by key; on any: a = 1;");
    Due.due("run", x.run(5, 3), 3);
    Due.program(x, 5, COUNTING);
    Due.due("place", x.fold(5, 0), 0);
    Due.due("cells", x.fold(5, 1), 0);
    Due.due("part", x.part(5, 0), Due.ABSENT);
    Due.due("run", x.run(5, 600), 4);
    Due.due("the new program", x.cell(5, 0, 0), 4);

    Due.sentence("Promise 10", "its FAULT if it has one (the fold stays)");
    Due.changesNothing("a fault", x, () -> {
      Due.due("fault", Due.define(x, 5, "by key; on any: a = 1"), 21);
      Due.due("fault", Due.define(x, 5, ""), 0);
      Due.due("fault", Due.define(x, 0, "$"), 0);
    });
    Due.due("its program", x.rewind(5), 4);
    Due.due("its program", x.run(5, 600), 4);
    Due.due("its program", x.cell(5, 0, 0), 4);
    Due.due("without a program still", x.run(0, 0), NONE);

    Due.sentence("Promise 10", "REFUSED for another fold (the TAPE stays).");
    EventLedger y = new EventLedger();
    for (int fold : NO_FOLD) Due.due("an empty tape, fold " + fold, y.define(fold), REFUSED);
    Due.tape(y, COUNTING);
    for (int fold : NO_FOLD) Due.due("fold " + fold, y.define(fold), REFUSED);
    Due.due("it stays", y.end(COUNTING.length() + 1), REFUSED);
    Due.due("it stays", y.end(COUNTING.length()), COUNTING.length());
    Due.due("the least fold", y.define(0), NONE);
    Due.due("it was read", y.end(1), REFUSED);
    Due.program(y, 5, COUNTING);
    for (int f = 1; f < 5; f++) Due.due("the others have none", y.fold(f, 0), -1);
  }

  private static void run() {
    Due.sentence("Promise 11", "A fold takes the next n events (0 to 600), or as many as there are: how many");
    EventLedger x = new EventLedger();
    Due.program(x, 0, COUNTING);
    Due.due("there are none", x.run(0, 600), 0);
    Due.batch(x, 0, 5);
    Due.due("0", x.run(0, 0), 0);
    Due.due("nothing was taken", x.fold(0, 0), 0);
    Due.due("1", x.run(0, 1), 1);
    Due.due("more than there are", x.run(0, 5), 4);
    Due.due("place", x.fold(0, 0), 5);
    Due.due("there are no more", x.run(0, 600), 0);
    Due.due("each once", x.cell(0, 0, 0), 5);

    Due.sentence("Promise 11", "less if it is STUCK");
    EventLedger y = keys();
    Due.program(y, 0, "by key; on any: a = 1;");
    Due.due("run", y.run(0, 30), 30);
    Due.due("less", y.run(0, 12), 10);
    Due.due("none", y.run(0, 12), 0);

    Due.sentence("Promise 11", "REFUSED for another fold or n; NONE without a program.");
    int[] others = {-1, 601, MIN, MAX};
    for (int fold : NO_FOLD) Due.due("fold " + fold, x.run(fold, 1), REFUSED);
    for (int n : others) {
      Due.due("n " + n, x.run(0, n), REFUSED);
      Due.due("ahead of NONE " + n, x.run(1, n), REFUSED);
    }
    Due.due("nothing was taken", x.fold(0, 0), 5);
    Due.due("without a program", x.run(1, 0), NONE);
    Due.due("without a program", x.run(5, 600), NONE);
    Due.due("place", x.fold(5, 0), -1);
  }

  private static void rewind() {
    Due.sentence("Promise 12", "A fold is begun anew, with its program: the place that it had.");
    EventLedger x = new EventLedger();
    Due.batch(x, 0, 6);
    Due.program(x, 2, "by key; on any: a = a + 1;");
    Due.program(x, 3, "by key; on any: a = a + 1;");
    Due.due("at first", x.rewind(2), 0);
    Due.due("run", x.run(2, 6), 6);
    Due.due("run", x.run(3, 6), 6);
    Due.due("at the end", x.rewind(2), 6);
    Due.due("place", x.fold(2, 0), 0);
    Due.due("cells", x.fold(2, 1), 0);
    Due.due("cell", x.cell(2, 0, 0), Due.ABSENT);
    Due.due("again", x.rewind(2), 0);
    Due.due("run", x.run(2, 600), 6);
    Due.due("anew", x.cell(2, 5, 0), 1);
    Due.due("others stay", x.fold(3, 0), 6);
    Due.due("others stay", x.fold(3, 1), 6);

    Due.sentence("Promise 12", "REFUSED; NONE without a program.");
    for (int fold : NO_FOLD) Due.due("fold " + fold, x.rewind(fold), REFUSED);
    Due.due("without a program", x.rewind(0), NONE);
    Due.due("without a program", x.rewind(5), NONE);
    Due.due("still", x.fold(5, 0), -1);
  }

  private static EventLedger twoCells() {
    EventLedger x = new EventLedger();
    Due.event(x, 0, 0, MAX, 0);
    Due.event(x, 0, 0, MIN, 0);
    Due.program(x, 0, "by key; on any: a = -1, h = 8, b = key;");
    Due.due("run", x.run(0, 600), 2);
    return x;
  }

  private static void cell() {
    EventLedger x = twoCells();
    Due.sentence("Promise 13", "Variable v (0 to 7) of the cell of a part; 2^40 if there is none");
    Due.due("the least variable", x.cell(0, MIN, 0), -1);
    Due.due("the greatest variable", x.cell(0, MAX, 7), 8);
    Due.due("b", x.cell(0, MAX, 1), MAX);
    Due.due("b", x.cell(0, MIN, 1), MIN);
    int[] parts = {0, -1, MIN + 1, MAX - 1};
    for (int part : parts) Due.due("part " + part, x.cell(0, part, 0), Due.ABSENT);
    Due.due("without a program", x.cell(1, 0, 0), Due.ABSENT);

    Due.sentence("Promise 13", "2^40 + 1 for another fold or variable.");
    int[] variables = {-1, 8, MIN, MAX};
    for (int fold : NO_FOLD) Due.due("fold " + fold, x.cell(fold, MIN, 0), Due.IMPROPER);
    for (int v : variables) {
      Due.due("variable " + v, x.cell(0, MIN, v), Due.IMPROPER);
      Due.due("ahead of no cell " + v, x.cell(0, 0, v), Due.IMPROPER);
      Due.due("ahead of no program " + v, x.cell(1, 0, v), Due.IMPROPER);
    }
  }

  private static void part() {
    EventLedger x = twoCells();
    Due.sentence("Promise 14", "The part of the k-th cell of a fold, by rising parts, from 0; 2^40 if there is none");
    Due.due("the least", x.part(0, 0), MIN);
    Due.due("the greatest", x.part(0, 1), MAX);
    int[] none = {-1, 2, 40, MIN, MAX};
    for (int k : none) Due.due("k " + k, x.part(0, k), Due.ABSENT);
    Due.due("without a program", x.part(5, 0), Due.ABSENT);

    Due.sentence("Promise 14", "2^40 + 1 for another fold.");
    for (int fold : NO_FOLD) {
      Due.due("fold " + fold, x.part(fold, 0), Due.IMPROPER);
      Due.due("ahead of no cell, fold " + fold, x.part(fold, -1), Due.IMPROPER);
    }
  }

  private static void fold() {
    Due.sentence("Promise 15", "what 0: its place (-1 without a program), 1: cells");
    EventLedger x = keys();
    for (int f = 0; f < 6; f++) Due.due("without a program", x.fold(f, 0), -1);
    Due.due("without a program", x.fold(0, 1), 0);
    Due.program(x, 0, "by key; on any: a = 1;");
    Due.due("with one", x.fold(0, 0), 0);
    Due.due("run", x.run(0, 40), 40);
    Due.due("place", x.fold(0, 0), 40);
    Due.due("cells", x.fold(0, 1), 40);

    Due.sentence("Promise 15", "2: 1 if it is STUCK at the next event, else 0 (also without one, or a program)");
    Due.due("stuck", x.fold(0, 2), 1);
    Due.due("without a program", x.fold(1, 2), 0);
    Due.program(x, 1, COUNTING);
    Due.due("not stuck", x.fold(1, 2), 0);
    Due.due("run", x.run(1, 600), 42);
    Due.due("without a next event", x.fold(1, 2), 0);
    Due.program(x, 2, "by key; on any where place != 40: a = 1;");
    Due.due("run", x.run(2, 40), 40);
    Due.due("not at the next, but behind it", x.fold(2, 2), 0);
    Due.due("run", x.run(2, 600), 1);
    Due.due("there", x.fold(2, 2), 1);
    Due.due("rewind", x.rewind(2), 41);
    Due.due("no longer", x.fold(2, 2), 0);
    EventLedger y = keys();
    Due.due("crash", y.crash(6 * 104 + 103), 36);
    Due.program(y, 0, "by key; on any: a = 1;");
    Due.due("run", y.run(0, 600), 36);
    for (int i = 0; i < 4; i++) Due.event(y, 0, 0, 1000 + i, 0);
    Due.due("run", y.run(0, 600), 4);
    Due.due("40 cells without a next event", y.fold(0, 2), 0);
    Due.event(y, 0, 0, 2000, 0);
    Due.due("with a next event", y.fold(0, 2), 1);

    Due.sentence("Promise 15", "REFUSED for others.");
    int[] others = {-1, 3, MIN, MAX};
    for (int fold : NO_FOLD) {
      for (int what = 0; what < 3; what++) Due.due("fold " + fold, x.fold(fold, what), REFUSED);
    }
    for (int what : others) {
      Due.due("what " + what, x.fold(0, what), REFUSED);
      Due.due("what " + what, x.fold(5, what), REFUSED);
    }
  }

  private static void lookingChangesNothing() {
    Due.sentence("Promise 15", "2: 1 if it is STUCK at the next event");
    EventLedger x = new EventLedger();
    Due.batch(x, 0, 3);
    Due.program(x, 0, "by all; on 2: forget; on any: a = a + 1;");
    Due.due("run", x.run(0, 1), 1);
    Due.changesNothing("fold", x, () -> {
      for (int i = 0; i < 3; i++) Due.due("not stuck", x.fold(0, 2), 0);
    });
    Due.due("run", x.run(0, 1), 1);
    Due.due("once", x.cell(0, 0, 0), 2);
    Due.due("not stuck", x.fold(0, 2), 0);
    Due.due("not forgotten yet", x.cell(0, 0, 0), 2);
  }
}
