/** Promises 11 to 15: run, rewind, cell, part and fold; and how events are taken. */
public final class FoldTest {
  private static final int MIN = Integer.MIN_VALUE;
  private static final int MAX = Integer.MAX_VALUE;

  public static void main(String[] args) {
    sums();
    tests();
    firstRuleThatFits();
    kindsAndStreams();
    parts();
    cellsComeAndGo();
    runCounts();
    stuck();
    rewinds();
    wrongInputs();
    Due.finish();
  }

  /** The value of a sum for the event number 1 of kind 3, stream 5, key -7 and value 11. */
  private static void sum(String text, int want) {
    EventLedger x = new EventLedger();
    Due.event(x, 0, 0, 0, 0);
    Due.event(x, 5, 3, -7, 11);
    Due.program(x, 0, "by all; on 3: a = 2, b = -3, h = 9, c = " + text + ";");
    Due.due("run", x.run(0, 600), 2);
    Due.due(text, x.cell(0, 0, 2), want);
  }

  private static void sums() {
    sum("1 + 2 * 3", 7);
    sum("(1 + 2) * 3", 9);
    sum("10 - 3 - 2", 5);
    sum("100 / 10 / 5", 2);
    sum("100 / 7 % 4", 2);
    sum("17 % 10 * 3", 21);
    sum("2 - -3", 5);
    sum("- - 4", 4);
    sum("-2 * 3 + 1", -5);
    sum("-(2 + 3) * -2", 10);
    sum("7 / -2", -3);
    sum("-7 / 2", -3);
    sum("-7 % 3", -1);
    sum("7 % -3", 1);
    sum("5 / 0", 0);
    sum("5 % 0", 0);
    sum("-5 / (a - 2)", 0);
    sum("2147483647 + 1", MIN);
    sum("-2147483647 - 2", MAX);
    sum("2147483647 * 2147483647", 1);
    sum("(-2147483647 - 1) / -1", MIN);
    sum("(-2147483647 - 1) % -1", 0);
    sum("-(-2147483647 - 1)", MIN);
    sum("65536 * 65536", 0);
    sum("key", -7);
    sum("value", 11);
    sum("kind", 3);
    sum("stream", 5);
    sum("place", 1);
    sum("a * 100 + b * 10 + h", 179);
    sum("c + d + e + f + g", 0);
    sum("least(a, b)", -3);
    sum("most(a, b)", 2);
    sum("least(3, 2) * 10 + most(5, 4)", 25);
    sum("least(-2147483647 - 1, 2147483647)", MIN);
    sum("most(-2147483647 - 1, 2147483647)", MAX);
    sum("1+1*least(1+1*2,1+1*(1+1*least(9,1+1*(1+1*most(1,1+1*(1+1*most(0,1+1*(1+1*2))))))))", 4);
  }

  private static void test(String text, boolean want) {
    EventLedger x = new EventLedger();
    Due.event(x, 5, 3, -7, 11);
    Due.event(x, 5, 3, -7, 12);
    Due.program(x, 0, "by key; on any where place = 0: a = 2, b = -3; on any where " + text + ": c = 1; on any: c = 0;");
    Due.due("run", x.run(0, 600), 2);
    Due.due(text, x.cell(0, -7, 2), want ? 1 : 0);
  }

  private static void tests() {
    String[] signs = {"=", "!=", "<", "<=", ">", ">="};
    boolean[][] want = {{false, true, false}, {true, false, true}, {true, false, false},
        {true, true, false}, {false, false, true}, {false, true, true}};
    for (int i = 0; i < 6; i++) {
      test("1 " + signs[i] + " a", want[i][0]);
      test("2 " + signs[i] + " a", want[i][1]);
      test("3 " + signs[i] + " a", want[i][2]);
      test("-2147483647 - 1 " + signs[i] + " 2147483647", want[i][0]);
    }
    test("fresh", false);
    test("not fresh", true);
    test("not not fresh", false);
    test("a = 2 and b = -3", true);
    test("a = 2 and b = 3", false);
    test("a = 1 and b = -3", false);
    test("a = 1 or b = -3", true);
    test("a = 2 or b = 3", true);
    test("a = 1 or b = 3", false);
    test("a = 2 or fresh and fresh", true);
    test("(a = 2 or fresh) and fresh", false);
    test("fresh and fresh or a = 2", true);
    test("fresh and (fresh or a = 2)", false);
    test("not fresh and a = 1", false);
    test("not (fresh and a = 1)", true);
    test("not a = 1", true);
    test("not fresh or a = 2", true);
    test("a + b = -1", true);
    test("key = -7 and value = 12 and kind = 3 and stream = 5 and place = 1", true);
  }

  private static void firstRuleThatFits() {
    EventLedger x = new EventLedger();
    for (int i = 0; i < 4; i++) Due.event(x, 0, i, 0, i);
    Due.program(x, 0, "by all; on 1: a = a + 1; on 1 2: b = b + 1; on any where value = 3: c = 1; on any: d = d + 1;");
    Due.due("run", x.run(0, 4), 4);
    for (int v = 0; v < 4; v++) Due.due("variable " + v, x.cell(0, 0, v), 1);
    Due.program(x, 0, "by all; on 2: a = 1;");
    Due.due("no rule", x.run(0, 2), 2);
    Due.due("nothing", x.fold(0, 1), 0);
    Due.due("the place goes on", x.fold(0, 0), 2);
  }

  private static void kindsAndStreams() {
    EventLedger x = new EventLedger();
    for (int i = 0; i < 8; i++) Due.event(x, 7 - i, i, 0, 1 << i);
    Due.program(x, 0, "by all; on 0 3 7: a = a + value;");
    Due.program(x, 1, "by all; on any from 0 3 7: a = a + value;");
    Due.program(x, 2, "by all; on 1 4 7 from 0 3 5: a = a + value;");
    for (int f = 0; f < 3; f++) Due.due("run", x.run(f, 600), 8);
    Due.due("kinds", x.cell(0, 0, 0), 1 + 8 + 128);
    Due.due("streams", x.cell(1, 0, 0), 128 + 16 + 1);
    Due.due("both", x.cell(2, 0, 0), 16 + 128);
  }

  private static void parts() {
    EventLedger x = new EventLedger();
    int[] keys = {5, -5, MAX, 0, MIN, 5};
    for (int i = 0; i < 6; i++) Due.event(x, i, 7 - i, keys[i], 1);
    String[] by = {"key", "stream", "kind", "all"};
    for (int f = 0; f < 4; f++) {
      Due.program(x, f, "by " + by[f] + "; on any: a = a + 1;");
      Due.due("run", x.run(f, 600), 6);
    }
    int[] rising = {MIN, -5, 0, 5, MAX};
    for (int k = 0; k < 5; k++) Due.due("part " + k, x.part(0, k), rising[k]);
    Due.due("no more", x.part(0, 5), Due.ABSENT);
    Due.due("below 0", x.part(0, -1), Due.ABSENT);
    Due.due("cell", x.cell(0, 5, 0), 2);
    Due.due("cell", x.cell(0, MIN, 0), 1);
    for (int k = 0; k < 6; k++) {
      Due.due("stream", x.part(1, k), k);
      Due.due("kind", x.part(2, k), k + 2);
    }
    Due.due("all", x.part(3, 0), 0);
    Due.due("all", x.part(3, 1), Due.ABSENT);
    Due.due("all", x.cell(3, 0, 0), 6);
  }

  private static void cellsComeAndGo() {
    EventLedger x = new EventLedger();
    for (int i = 0; i < 6; i++) Due.event(x, 0, i, 2 - i % 3, i);
    Due.program(x, 0, "by key; on 4: a = 8, forget, b = a + 1; on 5: forget, forget; on any where fresh: a = b + 5, c = a;");
    Due.due("run", x.run(0, 3), 3);
    Due.due("cells", x.fold(0, 1), 3);
    Due.due("variables are 0 in a fresh cell", x.cell(0, 2, 0), 5);
    Due.due("actions one by one", x.cell(0, 2, 2), 5);
    Due.due("run", x.run(0, 3), 3);
    Due.due("forgotten and anew", x.cell(0, 1, 0), 0);
    Due.due("forgotten and anew", x.cell(0, 1, 1), 1);
    Due.due("forgotten and anew", x.cell(0, 1, 2), 0);
    Due.due("gone", x.cell(0, 0, 0), Due.ABSENT);
    Due.due("cells", x.fold(0, 1), 2);
    Due.due("part", x.part(0, 0), 1);
    Due.due("part", x.part(0, 1), 2);
    Due.due("the others stay", x.cell(0, 2, 0), 5);
    Due.program(x, 1, "by key; on any: forget;");
    Due.due("run", x.run(1, 6), 6);
    Due.due("nothing to forget", x.fold(1, 1), 0);
    Due.program(x, 2, "by key; on 0 1 2: b = 1; on 3: forget, a = b + 3; on any where b = 1: b = 7;");
    Due.due("run", x.run(2, 6), 6);
    Due.due("0 for what follows", x.cell(2, 2, 0), 3);
    Due.due("0 for what follows", x.cell(2, 2, 1), 0);
    Due.due("test", x.cell(2, 0, 1), 7);
  }

  private static void runCounts() {
    EventLedger x = new EventLedger();
    Due.program(x, 0, "by all; on any: a = a + 1;");
    Due.due("no events", x.run(0, 600), 0);
    for (int i = 0; i < 5; i++) Due.event(x, 0, 0, 0, 0);
    Due.due("run 0", x.run(0, 0), 0);
    Due.due("run 2", x.run(0, 2), 2);
    Due.due("place", x.fold(0, 0), 2);
    Due.due("run 4", x.run(0, 4), 3);
    Due.due("place", x.fold(0, 0), 5);
    Due.due("run", x.run(0, 600), 0);
    Due.due("cell", x.cell(0, 0, 0), 5);
    Due.due("not stuck without a next", x.fold(0, 2), 0);
    Due.due("n", x.run(0, 601), EventLedger.REFUSED);
    Due.due("n", x.run(0, -1), EventLedger.REFUSED);
    Due.due("n ahead of no program", x.run(1, 601), EventLedger.REFUSED);
    Due.due("fold", x.run(6, 1), EventLedger.REFUSED);
    Due.due("fold", x.run(-1, 1), EventLedger.REFUSED);
    Due.due("no program", x.run(1, 0), EventLedger.NONE);
  }

  private static void stuck() {
    EventLedger x = new EventLedger();
    for (int i = 0; i < 42; i++) {
      x.stage(i == 41 ? 1 : 0, 100 - i, i);
      if (i % 6 == 5) x.append(0, -1);
    }
    Due.program(x, 0, "by key; on 0: a = 1;");
    Due.due("not stuck at first", x.fold(0, 2), 0);
    Due.due("run", x.run(0, 39), 39);
    Due.due("run", x.run(0, 1), 1);
    Due.due("cells", x.fold(0, 1), 40);
    Due.due("stuck", x.fold(0, 2), 1);
    Due.due("run", x.run(0, 5), 0);
    Due.due("place", x.fold(0, 0), 40);
    Due.due("cells", x.fold(0, 1), 40);
    Due.due("nothing of it", x.cell(0, 60, 0), Due.ABSENT);
    Due.program(x, 1, "by key; on any where place < 40: a = 1; on any: b = 1, forget;");
    Due.due("41 for a while only", x.run(1, 600), 42);
    Due.due("cells", x.fold(1, 1), 40);
    Due.program(x, 2, "by key; on any where place < 40: a = 1; on any: forget, b = 1;");
    Due.due("41 left", x.run(2, 600), 40);
    Due.program(x, 3, "by key; on any where place < 40: a = 1; on 1: b = 1;");
    Due.due("no rule for it", x.run(3, 1 + 40), 41);
    Due.due("stuck", x.fold(3, 2), 1);
    Due.event(x, 0, 0, 100, 0);
    Due.program(x, 4, "by key; on any where place < 40: a = 1; on any where key = 100: a = a + 6;");
    Due.due("an old cell", x.run(4, 600), 43);
    Due.due("an old cell", x.cell(4, 100, 0), 7);
    Due.due("not stuck", x.fold(4, 2), 0);
    Due.due("fold 2 changes nothing", x.fold(2, 0), 40);
    Due.due("rewind", x.rewind(0), 40);
    Due.due("no longer stuck", x.fold(0, 2), 0);
  }

  private static void rewinds() {
    EventLedger x = new EventLedger();
    Due.event(x, 0, 0, 4, 9);
    Due.due("no program", x.rewind(0), EventLedger.NONE);
    Due.due("fold", x.rewind(6), EventLedger.REFUSED);
    Due.due("fold", x.rewind(-1), EventLedger.REFUSED);
    Due.program(x, 0, "by key; on any: a = a + value;");
    Due.due("run", x.run(0, 1), 1);
    Due.due("rewind", x.rewind(0), 1);
    Due.due("place", x.fold(0, 0), 0);
    Due.due("cells", x.fold(0, 1), 0);
    Due.due("cell", x.cell(0, 4, 0), Due.ABSENT);
    Due.due("rewind", x.rewind(0), 0);
    Due.due("its program", x.run(0, 600), 1);
    Due.due("begun anew", x.cell(0, 4, 0), 9);
  }

  private static void wrongInputs() {
    EventLedger x = new EventLedger();
    Due.event(x, 0, 0, 4, 9);
    Due.program(x, 0, "by key; on any: a = 1, h = 8;");
    x.run(0, 1);
    Due.due("h", x.cell(0, 4, 7), 8);
    Due.due("no cell", x.cell(0, 5, 7), Due.ABSENT);
    Due.due("variable", x.cell(0, 4, 8), Due.IMPROPER);
    Due.due("variable", x.cell(0, 4, -1), Due.IMPROPER);
    Due.due("variable ahead of no cell", x.cell(0, 5, 8), Due.IMPROPER);
    int[] others = {-1, 6, MIN, MAX};
    for (int f : others) {
      Due.due("cell", x.cell(f, 4, 0), Due.IMPROPER);
      Due.due("part", x.part(f, 0), Due.IMPROPER);
      Due.due("fold", x.fold(f, 0), EventLedger.REFUSED);
    }
    Due.due("what", x.fold(0, 3), EventLedger.REFUSED);
    Due.due("what", x.fold(0, -1), EventLedger.REFUSED);
    Due.due("what", x.fold(1, 3), EventLedger.REFUSED);
    Due.due("part", x.part(0, MAX), Due.ABSENT);
    Due.due("part", x.part(0, MIN), Due.ABSENT);
  }
}
