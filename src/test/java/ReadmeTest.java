import java.lang.reflect.Method;
import java.nio.charset.StandardCharsets;
import java.nio.file.Files;
import java.nio.file.Path;
import java.util.regex.Matcher;
import java.util.regex.Pattern;

/** The example of README.md: its text is fed, and each call in it answers what stands behind it. */
public final class ReadmeTest {
  private static final Check check = new Check("ReadmeTest");

  private static String between(String page, String from, String to) {
    int start = page.indexOf(from) + from.length();
    return page.substring(start, page.indexOf(to, start));
  }

  private static Method method(String name) {
    for (Method f : AlibiRota.class.getMethods()) if (f.getName().equals(name)) return f;
    throw new IllegalStateException("README.md calls " + name);
  }

  private static long answer(AlibiRota x, String name, String given) throws ReflectiveOperationException {
    Method f = method(name);
    String[] parts = given.isEmpty() ? new String[0] : given.split(", ");
    Object[] args = new Object[parts.length];
    for (int i = 0; i < parts.length; i++) {
      if (f.getParameterTypes()[i] == long.class) args[i] = Long.parseLong(parts[i]);
      else args[i] = Integer.parseInt(parts[i]);
    }
    return ((Number) f.invoke(x, args)).longValue();
  }

  public static void main(String[] none) throws Exception {
    String page = Files.readString(Path.of("README.md"), StandardCharsets.UTF_8);
    AlibiRota x = new AlibiRota();
    Check.feed(x, between(page, "```text\n", "```"));
    Matcher m = Pattern.compile("(?m)^x\\.(\\w+)\\(([-\\d, ]*)\\); +// (-?\\d+)").matcher(page);
    int calls = 0;
    while (m.find()) {
      check.due(m.group(1) + "(" + m.group(2) + ")", answer(x, m.group(1), m.group(2)), Long.parseLong(m.group(3)));
      calls++;
    }
    check.due("lines that begin with a call", calls, page.lines().filter(l -> l.startsWith("x.")).count());
    check.holds("calls in README.md: " + calls, calls > 20);
    check.close();
  }
}
