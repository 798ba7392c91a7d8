import java.util.function.Consumer;
import java.util.function.IntToLongFunction;
import java.util.function.Supplier;

/** What the tests share: counting answers, feeding a text, and edges. */
final class Check {
  private final String test;
  private int right = 0;
  private int wrong = 0;

  Check(String test) { this.test = test; }

  void due(String what, long got, long want) {
    if (got == want) {
      right++;
      return;
    }
    wrong++;
    System.out.println(test + ": " + what + " answered " + got + ", due is " + want);
  }

  void holds(String what, boolean so) { due(what, so ? 1 : 0, 1); }

  /** -2 is due just outside from low to high, and far outside, and nowhere within. */
  void within(String what, int low, int high, IntToLongFunction call) {
    if (low <= high) {
      holds(what + ": " + low + " is taken", call.applyAsLong(low) != -2);
      holds(what + ": " + high + " is taken", call.applyAsLong(high) != -2);
    }
    for (int v : new int[] {Integer.MIN_VALUE, low - 1, high + 1, Integer.MAX_VALUE}) due(what + ": " + v, call.applyAsLong(v), -2);
  }

  /** Of two objects made alike, the one that had calls shows the same as the one that had none. */
  void stays(String what, Supplier<AlibiRota> made, Consumer<AlibiRota> calls) {
    AlibiRota x = made.get();
    calls.accept(x);
    String got = State.of(x);
    String want = State.of(made.get());
    if (!got.equals(want)) System.out.println(firstUnlike(got, want));
    holds(what + " changes nothing", got.equals(want));
  }

  private static String firstUnlike(String got, String want) {
    String[] a = got.split("\n");
    String[] b = want.split("\n");
    for (int i = 0; i < a.length && i < b.length; i++) if (!a[i].equals(b[i])) return "'" + a[i] + "', not '" + b[i] + "'";
    return a.length + " lines, not " + b.length;
  }

  void close() {
    System.out.println(test + ": " + right + " passed, " + wrong + " failed");
    if (wrong != 0) System.exit(1);
  }

  /** Puts a text behind what the tape has; what fills up the last twenty bytes is cut again. */
  static void feed(AlibiRota x, String text) {
    int before = x.count(10);
    for (int i = 0; i < text.length(); i += 20) {
      int[] v = new int[5];
      for (int k = 0; k < 20; k++) {
        int sign = i + k < text.length() ? text.charAt(i + k) : ' ';
        v[k / 4] = v[k / 4] << 8 | sign & 255;
      }
      x.feed(v[0], v[1], v[2], v[3], v[4]);
    }
    x.end(before + text.length());
  }

  static AlibiRota told(String text) {
    AlibiRota x = new AlibiRota();
    feed(x, text);
    x.city();
    return x;
  }
}
