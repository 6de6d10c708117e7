import java.io.IOException;
import java.lang.reflect.Method;
import java.lang.reflect.Modifier;
import java.nio.file.Files;
import java.nio.file.Path;
import java.util.List;

/** The example of README.md does what it says there, and its lines are the ones that are tried here. */
public final class ReadmeTest {
  private static final Path README = Path.of("README.md");
  private static final Path HERE = Path.of("src/test/java/ReadmeTest.java");

  public static void main(String[] args) throws IOException {
    example();
    sameLines();
    allCalls();
    Due.finish();
  }

  private static void example() {
    EventLedger ledger = new EventLedger();

    ledger.stage(1, 7, 10);
    ledger.stage(2, 7, 4);
    int first = ledger.append(0, -1);
    Due.due("first", first, 0);

    write(ledger, "by key; on 1: a = a + value; on 2 where a >= value: a = a - value;");
    int fault = ledger.define(0);
    Due.due("fault", fault, EventLedger.NONE);
    int taken = ledger.run(0, 600);
    Due.due("taken", taken, 2);
    long held = ledger.cell(0, 7, 0);
    Due.due("held", held, 6);

    ledger.subscribe(0, 255, 255, 0);
    int given = ledger.take(0);
    Due.due("given", given, 0);
    int out = ledger.tell(0, given, true);
    Due.due("out", out, 0);

    int kept = ledger.keep();
    Due.due("kept", kept, 2);
    ledger.stage(1, 8, 5);
    int late = ledger.append(1, 0);
    Due.due("late", late, 2);
    Due.due("bytes behind what is kept", ledger.count(3), 24);
    int left = ledger.crash(23);
    Due.due("left", left, 2);
  }

  static void write(EventLedger ledger, String text) {
    ledger.end(0);
    for (int at = 0; at < text.length(); at += 20) {
      int[] fours = new int[5];
      for (int i = 0; i < 20; i++) {
        int next = at + i < text.length() ? text.charAt(at + i) : 0;
        fours[i / 4] = fours[i / 4] << 8 | next;
      }
      ledger.feed(fours[0], fours[1], fours[2], fours[3], fours[4]);
    }
    ledger.end(text.length());
  }

  /** Each line of Java in README.md stands in this file, in the same order. */
  private static void sameLines() throws IOException {
    List<String> here = Files.readAllLines(HERE);
    boolean java = false;
    int at = 0;
    int found = 0;
    for (String line : Files.readAllLines(README)) {
      if (line.startsWith("```")) java = line.equals("```java");
      String code = withoutComment(line);
      if (!java || line.startsWith("```") || code.isEmpty()) continue;
      while (at < here.size() && !here.get(at).strip().equals(code)) at++;
      Due.due("tried here: " + code, at < here.size() ? 1 : 0, 1);
      at++;
      found++;
    }
    Due.due("README.md has an example", found > 20 ? 1 : 0, 1);
  }

  private static String withoutComment(String line) {
    int comment = line.indexOf("//");
    return (comment < 0 ? line : line.substring(0, comment)).strip();
  }

  private static void allCalls() throws IOException {
    String readme = Files.readString(README);
    for (Method m : EventLedger.class.getDeclaredMethods()) {
      if (!Modifier.isPublic(m.getModifiers())) continue;
      Due.due("README.md tells of " + m.getName(), readme.contains("| `" + m.getName() + "(") ? 1 : 0, 1);
    }
    Due.due("README.md tells how to run the tests", readme.contains(".ci/run") ? 1 : 0, 1);
  }
}
