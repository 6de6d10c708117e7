import java.io.IOException;
import java.lang.reflect.Field;
import java.lang.reflect.Method;
import java.lang.reflect.Modifier;
import java.nio.file.Files;
import java.nio.file.Path;
import java.util.Set;
import java.util.TreeSet;
import java.util.regex.Pattern;

/** The rules of LANGUAGE.md that can be looked at by a program, and the room that a run takes. */
public final class LanguageTest {
  private static final String[] BARRED = {"throw", "throws", "try", "catch", "synchronized", "assert", "protected", "package",
      "->", "::", "native", "volatile", "transient", "Random", "Thread", "Exact", "hashCode", "toString", "System\\.(?!arraycopy)",
      "Integer\\.M", "Long\\.M", "Math\\.random", "@"};

  public static void main(String[] args) throws IOException {
    words();
    members();
    room();
    Due.finish();
  }

  private static void words() throws IOException {
    String source = Files.readString(Path.of("src/main/java/EventLedger.java"));
    for (String barred : BARRED) {
      boolean isWord = Character.isLetter(barred.charAt(0));
      Pattern p = Pattern.compile(isWord ? "\\b" + barred : barred);
      Due.due("barred: " + barred, p.matcher(source).results().count(), 0);
    }
    Due.due("characters above 255", source.chars().filter(c -> c > 255).count(), 0);
    Due.due("imports", Pattern.compile("^import ", Pattern.MULTILINE).matcher(source).results().count(), 1);
    Due.due("classes inside", EventLedger.class.getDeclaredClasses().length <= 11 ? 1 : 0, 1);
  }

  private static void members() {
    Set<String> face = new TreeSet<>();
    for (Method m : EventLedger.class.getDeclaredMethods()) {
      if (Modifier.isPublic(m.getModifiers())) face.add(m.getName());
    }
    fieldsAndNames(EventLedger.class, Set.of());
    for (Method m : EventLedger.class.getDeclaredMethods()) {
      if (Modifier.isPrivate(m.getModifiers())) Due.due("name " + m.getName(), face.contains(m.getName()) ? 1 : 0, 0);
    }
    for (Class<?> c : EventLedger.class.getDeclaredClasses()) {
      Due.due("static " + c.getName(), Modifier.isStatic(c.getModifiers()) ? 1 : 0, 1);
      fieldsAndNames(c, face);
    }
  }

  private static void fieldsAndNames(Class<?> c, Set<String> face) {
    int own = 0;
    for (Field f : c.getDeclaredFields()) {
      if (!Modifier.isStatic(f.getModifiers())) own++;
      else Due.due("final " + f.getName(), Modifier.isFinal(f.getModifiers()) ? 1 : 0, 1);
    }
    Due.due("fields of " + c.getName(), own <= 20 ? 1 : 0, 1);
    for (Method m : c.getDeclaredMethods()) {
      Due.due("parameters of " + m.getName(), m.getParameterCount() <= 7 ? 1 : 0, 1);
      Due.due("name " + m.getName(), face.contains(m.getName()) ? 1 : 0, 0);
    }
  }

  /** A run takes far less than the room for all: the bytes of 512 of the dearest calls. */
  private static void room() {
    if (!(java.lang.management.ManagementFactory.getThreadMXBean() instanceof com.sun.management.ThreadMXBean bean)) return;
    EventLedger warm = new EventLedger();
    warm.define(0);
    long id = Thread.currentThread().getId();
    long before = bean.getThreadAllocatedBytes(id);
    EventLedger x = new EventLedger();
    for (int i = 0; i < 128; i++) {
      x.feed(0x62792061, 0x6c6c3b6f, 0x6e20616e, 0x793a666f, 0x72676574);
      x.feed(0x3b202020, 0x20202020, 0x20202020, 0x20202020, 0x20202020);
      if (x.define(i % 6) != EventLedger.NONE) Due.due("define", 0, 1);
      x.crash(x.keep());
    }
    long bytes = bean.getThreadAllocatedBytes(id) - before;
    System.out.println("a run takes " + bytes + " bytes");
    Due.due("less than a million bytes", bytes < 1000000 ? 1 : 0, 1);
  }
}
