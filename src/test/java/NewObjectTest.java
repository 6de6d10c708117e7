/** Promise 1: a new object; and the face. */
public final class NewObjectTest {
  public static void main(String[] args) {
    answersOfNewObject();
    objectsAreApart();
    onlyTheFaceIsPublic();
    Due.finish();
  }

  private static void answersOfNewObject() {
    EventLedger x = new EventLedger();
    for (int what = 0; what < 12; what++) Due.due("count " + what, x.count(what), 0);
    for (int s = 0; s < 8; s++) {
      Due.due("event", x.event(s, 0, 0), Due.ABSENT);
      Due.due("latest", x.latest(s, 0), EventLedger.NONE);
    }
    for (int f = 0; f < 6; f++) {
      Due.due("fold 0", x.fold(f, 0), -1);
      Due.due("fold 1", x.fold(f, 1), 0);
      Due.due("fold 2", x.fold(f, 2), 0);
      Due.due("run", x.run(f, 1), EventLedger.NONE);
      Due.due("rewind", x.rewind(f), EventLedger.NONE);
      Due.due("cell", x.cell(f, 0, 0), Due.ABSENT);
      Due.due("part", x.part(f, 0), Due.ABSENT);
    }
    for (int r = 0; r < 8; r++) {
      for (int what = 0; what < 4; what++) Due.due("reader " + what, x.reader(r, what), 0);
      Due.due("parked", x.parked(r, 0), EventLedger.NONE);
      Due.due("take", x.take(r), EventLedger.NONE);
    }
    Due.due("end", x.end(0), 0);
    Due.due("end", x.end(1), EventLedger.REFUSED);
    Due.due("append", x.append(0, 0), EventLedger.NONE);
    Due.due("keep", x.keep(), 0);
    Due.due("crash", x.crash(0), 0);
  }

  private static void objectsAreApart() {
    EventLedger x = new EventLedger();
    EventLedger y = new EventLedger();
    Due.event(x, 0, 0, 0, 0);
    Due.program(x, 0, "by all; on any: a = 1;");
    x.subscribe(0, 255, 255, 0);
    Due.due("other count", y.count(0), 0);
    Due.due("other fold", y.fold(0, 0), -1);
    Due.due("other reader", y.take(0), EventLedger.NONE);
  }

  private static void onlyTheFaceIsPublic() {
    int methods = 0;
    for (java.lang.reflect.Method m : EventLedger.class.getDeclaredMethods()) {
      if (!java.lang.reflect.Modifier.isPrivate(m.getModifiers())) methods++;
    }
    Due.due("methods of the face", methods, 20);
    int fields = 0;
    for (java.lang.reflect.Field f : EventLedger.class.getDeclaredFields()) {
      if (!java.lang.reflect.Modifier.isPrivate(f.getModifiers())) fields++;
    }
    Due.due("constants of the face", fields, 4);
    Due.due("constructors", EventLedger.class.getDeclaredConstructors().length, 1);
    Due.due("REFUSED", EventLedger.REFUSED, -1);
    Due.due("NONE", EventLedger.NONE, -2);
    Due.due("FULL", EventLedger.FULL, -3);
    Due.due("WRONG", EventLedger.WRONG, -4);
  }
}
