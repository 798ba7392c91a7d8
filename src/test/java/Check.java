/** What the tests share: counting answers, and feeding a text. */
final class Check {
  private final String test;
  private int right = 0;
  private int wrong = 0;

  Check(String test) { this.test = test; }

  void due(String what, long got, long want) {
    if (got == want) {
      right++;
      return;
    }
    wrong++;
    System.out.println(test + ": " + what + " answered " + got + ", due is " + want);
  }

  void holds(String what, boolean so) { due(what, so ? 1 : 0, 1); }

  void close() {
    System.out.println(test + ": " + right + " passed, " + wrong + " failed");
    if (wrong != 0) System.exit(1);
  }

  /** Puts a text behind what the tape has; what fills up the last twenty bytes is cut again. */
  static void feed(AlibiRota x, String text) {
    int before = x.count(10);
    for (int i = 0; i < text.length(); i += 20) {
      int[] v = new int[5];
      for (int k = 0; k < 20; k++) {
        int sign = i + k < text.length() ? text.charAt(i + k) : ' ';
        v[k / 4] = v[k / 4] << 8 | sign & 255;
      }
      x.feed(v[0], v[1], v[2], v[3], v[4]);
    }
    x.end(before + text.length());
  }

  static AlibiRota told(String text) {
    AlibiRota x = new AlibiRota();
    feed(x, text);
    x.city();
    return x;
  }
}
