import java.lang.management.ManagementFactory;
import java.lang.reflect.Constructor;
import java.lang.reflect.Field;
import java.lang.reflect.Method;
import java.lang.reflect.Modifier;
import java.nio.charset.StandardCharsets;
import java.nio.file.Files;
import java.nio.file.Path;
import java.util.Set;
import java.util.TreeSet;
import java.util.regex.Matcher;
import java.util.regex.Pattern;

/** The class's face as the document has it, the rules of LANGUAGE.md that can be looked up, and room. */
public final class FaceTest {
  private static final Check check = new Check("FaceTest");

  private static void same(String what, Set<String> got, Set<String> want) {
    Set<String> more = new TreeSet<>(got);
    more.removeAll(want);
    Set<String> less = new TreeSet<>(want);
    less.removeAll(got);
    check.holds(what + ": more " + more + ", less " + less, more.isEmpty() && less.isEmpty());
  }

  private static void face(String doc) {
    Set<String> want = new TreeSet<>();
    Set<String> names = new TreeSet<>();
    Matcher m = Pattern.compile("public (int|long) (\\w+)\\(([^)]*)\\);").matcher(doc);
    while (m.find()) {
      want.add(m.group(1) + " " + m.group(2) + "(" + m.group(3).replaceAll(" \\w+(?=,|$)", "").replace(" ", "") + ")");
      names.add(m.group(2));
    }
    check.due("methods of the document", want.size(), 69);
    Set<String> got = new TreeSet<>();
    for (Method f : AlibiRota.class.getDeclaredMethods()) {
      if (Modifier.isPrivate(f.getModifiers())) {
        check.holds("private " + f.getName(), !names.contains(f.getName()));
        continue;
      }
      StringBuilder s = new StringBuilder(f.getReturnType() + " " + f.getName() + "(");
      for (Class<?> p : f.getParameterTypes()) s.append(s.charAt(s.length() - 1) == '(' ? "" : ",").append(p.getName());
      check.holds(f.getName() + " is public", Modifier.isPublic(f.getModifiers()) && !Modifier.isStatic(f.getModifiers()));
      got.add(s + ")");
    }
    same("methods", got, want);
    Set<String> fields = new TreeSet<>();
    for (Field f : AlibiRota.class.getDeclaredFields()) if (!Modifier.isPrivate(f.getModifiers())) fields.add(Modifier.toString(f.getModifiers()) + " " + f.getType() + " " + f.getName());
    same("fields", fields, new TreeSet<>(Set.of("public static final int NONE")));
    Constructor<?>[] made = AlibiRota.class.getDeclaredConstructors();
    check.holds("one public constructor", made.length == 1 && made[0].getParameterCount() == 0 && Modifier.isPublic(made[0].getModifiers()));
    check.holds("public and final", (AlibiRota.class.getModifiers() & (Modifier.PUBLIC | Modifier.FINAL)) == (Modifier.PUBLIC | Modifier.FINAL));
    inside(AlibiRota.class, names);
    for (Class<?> c : AlibiRota.class.getDeclaredClasses()) inside(c, names);
    check.holds("at most twelve classes", AlibiRota.class.getDeclaredClasses().length < 12);
  }

  private static void inside(Class<?> c, Set<String> names) {
    int fields = 0;
    for (Field f : c.getDeclaredFields()) {
      if (!Modifier.isStatic(f.getModifiers())) fields++;
      else check.holds(f + " is final", Modifier.isFinal(f.getModifiers()));
    }
    check.holds(c + " has some twenty fields: " + fields, fields <= 20);
    for (Method f : c.getDeclaredMethods()) {
      check.holds(f + " takes at most seven", f.getParameterCount() <= 7);
      if (c != AlibiRota.class) check.holds(f + " has a name of its own", !names.contains(f.getName()));
    }
    if (c != AlibiRota.class) check.holds(c + " is static", Modifier.isStatic(c.getModifiers()));
  }

  private static void source(String text) {
    String bare = text.replaceAll("(?s)/\\*.*?\\*/", "").replaceAll("//[^\n]*", "");
    for (String word : new String[] {"throw", "try", "catch", "synchronized", "assert", "import", "package", "native", "volatile", "double", "float"})
      check.holds("no " + word, !Pattern.compile("\\b" + word + "\\b").matcher(bare).find());
    for (String sign : new String[] {"->", "::", "@", "\\u", "Exact", "System.out", "== null", "nanoTime"}) check.holds("no " + sign, !bare.contains(sign));
    check.holds("plain signs", text.chars().allMatch(c -> c == '\n' || c >= 32 && c < 127));
    int start = 0;
    String[] lines = text.split("\n");
    for (int i = 0; i < lines.length; i++) {
      check.holds("line " + (i + 1) + " is short", lines[i].length() <= 110);
      if (lines[i].matches(" {4,8}(public|private).*\\) \\{")) start = i;
      if (lines[i].matches(" {4,8}\\}")) check.holds("method at " + (start + 1) + " is short", i - start <= 60 || lines[i].startsWith("    }"));
    }
  }

  /** All objects and arrays are made by the constructor: calls make none. */
  private static void room() {
    com.sun.management.ThreadMXBean bean = (com.sun.management.ThreadMXBean) ManagementFactory.getThreadMXBean();
    long id = Thread.currentThread().getId();
    long made = 0;
    long called = 0;
    for (int round = 0; round < 3; round++) {
      long a = bean.getThreadAllocatedBytes(id);
      AlibiRota x = new AlibiRota();
      long b = bean.getThreadAllocatedBytes(id);
      Check.feed(x, CityTest.TOWN);
      long c = bean.getThreadAllocatedBytes(id);
      use(x);
      long d = bean.getThreadAllocatedBytes(id);
      made = b - a;
      called = d - c;
    }
    check.holds("a new object takes " + made + " bytes", made < 20000);
    check.holds("calls take " + called + " bytes", called < 512);
  }

  private static void use(AlibiRota x) {
    x.city();
    x.row(0, 0, 3);
    x.row(1, 1, 2);
    for (int i = 0; i < 5; i++) {
      x.move(0, i % 4, i);
      x.swear(0, 2 + i % 2);
      x.best();
      x.worn(0);
      x.wore(0, 1);
      x.surely(0, 1);
      x.tied(0, 1);
      x.ties(0, 1, 3);
      x.steps(0, 1);
      x.who(1);
      x.ask(1);
      x.guards(1);
      x.trade();
      x.homebody();
      x.extra();
      x.chance(0, 0);
      x.luck(1, 20, 0);
      x.image(i % 3);
      x.back(i % 3);
      x.paste(0, 0, 0, 1, 2);
      x.undo();
    }
  }

  /** No call throws, whatever its arguments, and with whatever in the slots. */
  private static void edges() throws ReflectiveOperationException {
    long[] edges = {Integer.MIN_VALUE, -3, -2, -1, 0, 1, 2, 3, 6, 7, 9, 11, 12, 59, 60, 61, Integer.MAX_VALUE};
    AlibiRota empty = new AlibiRota();
    AlibiRota full = Check.told(CityTest.TOWN);
    AlibiRota filled = Check.told(CityTest.TOWN);
    for (int s = 0; s < 4; s++) filled.row(s, s, 6 * s);
    int calls = 0;
    for (AlibiRota x : new AlibiRota[] {empty, full, filled}) {
      for (Method f : AlibiRota.class.getDeclaredMethods()) {
        if (!Modifier.isPublic(f.getModifiers())) continue;
        Class<?>[] p = f.getParameterTypes();
        for (int i = 0; i < (p.length == 0 ? 1 : 300); i++) {
          Object[] args = new Object[p.length];
          for (int k = 0; k < p.length; k++) {
            long v = edges[(int) ((i * 7919L + k * (31 + i / 17) * 104729L >>> 1) % edges.length)];
            if (p[k] == long.class) args[k] = v; else args[k] = (int) v;
          }
          f.invoke(x, args);
          calls++;
        }
      }
    }
    check.holds("calls of all kinds: " + calls, calls > 10000);
  }

  public static void main(String[] args) throws Exception {
    face(Files.readString(Path.of("../shared/DOC.md"), StandardCharsets.UTF_8));
    source(Files.readString(Path.of("src/main/java/AlibiRota.java"), StandardCharsets.ISO_8859_1));
    room();
    edges();
    check.close();
  }
}
