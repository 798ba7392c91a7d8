/** The edges of promises 46 to 54 and 68 to 70: rows of slots, and what is told by them. */
public final class SlotEdgeTest {
  private static final Check check = new Check("SlotEdgeTest");
  /** Places by hour: 0: 0 2 0 0, 1: 1 1 3 1, 2: 3 3 3 2, 3: 5 5 5 5; a wall between 2 and 3. */
  private static final String TOWN = CityTest.TOWN;

  private static void fill(AlibiRota x, int slot, int width, long... v) {
    x.row(slot, width, v.length);
    for (int i = 0; i < v.length; i++) x.write(slot, i, v[i]);
  }

  private static AlibiRota filled(String text, long... v) {
    AlibiRota x = Check.told(text);
    check.due("no fault in " + text, x.fault(0), 0);
    fill(x, 0, 3, v);
    return x;
  }

  private interface Asked { long of(AlibiRota x, int slot); }

  private static final Asked[] DEEDS = {AlibiRota::who, AlibiRota::ask, AlibiRota::leaves};
  private static final Asked[] OATHS = {AlibiRota::lies, AlibiRota::liars, (x, s) -> x.closed(s, 0)};
  private static final Asked[] WORN = {AlibiRota::worn, (x, s) -> x.wore(s, 0), (x, s) -> x.surely(s, 0)};

  // "-2: there is no such SLOT, no CITY, ..; -6: it has nothing", "-2 is asked ahead of -6"
  private static void nothing(Asked[] calls) {
    AlibiRota none = new AlibiRota();
    none.row(1, 0, 0);
    AlibiRota x = Check.told(TOWN);
    for (Asked call : calls) {
      check.due("no city ahead of nothing", call.of(none, 0), -2);
      check.due("no city", call.of(none, 1), -2);
      check.due("no slot, no city", call.of(none, 4), -2);
      for (int s = 0; s < 4; s++) check.due("nothing in " + s, call.of(x, s), -6);
      check.due("no slot", call.of(x, 4), -2);
      check.due("no slot", call.of(x, -1), -2);
    }
  }

  /** Rows of zeros, or of what is given to each number of a kind. */
  private static void lengths(Asked[] calls, int each, long... good) {
    for (int n = 0; n <= 60; n++) {
      for (int width = 0; width < 4; width++) {
        long[] v = new long[n];
        for (int i = 0; i < n; i++) v[i] = good[i % each];
        AlibiRota x = Check.told(TOWN);
        fill(x, width, width, v);
        for (Asked call : calls) check.holds(n + " numbers, " + each + " each", call.of(x, width) == -2 == (n % each != 0));
      }
    }
  }

  /** Number i of each kind is taken from low to high, in the first of twenty or so and in the last. */
  private static void bounds(Asked[] calls, int each, int i, int low, int high, long... good) {
    int n = 60 / each;
    for (int at : new int[] {0, 1, n - 1}) {
      for (long v : new long[] {low, high, low - 1, high + 1, Long.MIN_VALUE, Long.MAX_VALUE, Integer.MIN_VALUE, (1L << 32) + low, (1L << 62) + low}) {
        long[] row = new long[60];
        for (int k = 0; k < 60; k++) row[k] = good[k % each];
        row[at * each + i] = v;
        AlibiRota x = filled(TOWN, row);
        for (Asked call : calls) check.holds("number " + i + " of " + at + " is " + v, call.of(x, 0) == -2 == (v < low || v > high));
      }
    }
  }

  private static void refusals() {
    nothing(DEEDS);
    nothing(OATHS);
    nothing(WORN);
    lengths(DEEDS, 2, 3, 5);
    lengths(OATHS, 3, 0, 1, 3);
    lengths(WORN, 3, 3, 3, 1);
    bounds(DEEDS, 2, 0, 0, 3, 0, 0);
    bounds(DEEDS, 2, 1, 0, 5, 0, 0);
    // "(another one)": of who swears, 3 is whom he saw; of whom he saw, 0 is who swears.
    bounds(OATHS, 3, 0, 0, 2, 0, 3, 0);
    bounds(OATHS, 3, 1, 1, 3, 0, 1, 0);
    bounds(OATHS, 3, 2, 0, 3, 0, 1, 0);
    bounds(WORN, 3, 0, 0, 3, 0, 0, 0);
    bounds(WORN, 3, 1, 0, 3, 0, 0, 0);
    bounds(WORN, 3, 2, 0, 1, 0, 0, 0);
    AlibiRota x = filled(TOWN);
    fill(x, 0, 0, 4, 0, 0);
    check.due("who swears is none", x.lies(0), -2);
    fill(x, 0, 0, 3, 4, 0);
    check.due("whom he saw is none", x.lies(0), -2);
    // "(no such PERSON, too)" is -2, ahead of -6, and with a row that is right.
    fill(x, 0, 0, 0, 1, 0);
    for (int s = 0; s < 2; s++) {
      for (int p : new int[] {-1, 4, Integer.MIN_VALUE, Integer.MAX_VALUE}) {
        check.due("closed of no person", x.closed(s, p), -2);
        check.due("wore of no person", x.wore(s, p), -2);
        check.due("surely of no person", x.surely(s, p), -2);
      }
      check.due("closed of the last", x.closed(s, 3), s == 0 ? 0 : -6);
      check.holds("wore of the last", s == 0 ? x.wore(s, 3) != -6 : x.wore(s, 3) == -6);
      check.holds("surely of the last", s == 0 ? x.surely(s, 3) != -6 : x.surely(s, 3) == -6);
    }
    // A city without persons has a row of 0 numbers and one of deeds, but no row of oaths.
    AlibiRota bare = filled(RangeTest.BARE);
    check.due("who of none", bare.who(0), 0);
    check.due("ask of none", bare.ask(0), -1);
    check.due("leaves of none", bare.leaves(0), 0);
    check.due("lies of none", bare.lies(0), 0);
    check.due("worn of none", bare.worn(0), 0);
    check.due("wore of none", bare.wore(0, 0), -2);
    fill(bare, 0, 0, 0, 1);
    check.due("who of none", bare.who(0), 0);
    fill(bare, 0, 0, 0, 1, 0);
    check.due("lies of none", bare.lies(0), -2);
    check.due("worn of none", bare.worn(0), -2);
  }

  private static void deeds(String name, AlibiRota x, int who, int ask, int leaves) {
    check.due(name + ": who", x.who(0), who);
    check.due(name + ": ask", x.ask(0), ask);
    check.due(name + ": leaves", x.leaves(0), leaves);
  }

  private static String hall(int hours, int pace, int... homes) {
    StringBuilder s = new StringBuilder("city places 10 hours " + hours + " sight 0 pace " + pace + " fine 0 ring 2 odds 0;");
    for (int home : homes) s.append("person at " + home + ";");
    return s.toString();
  }

  // ---- 46 who, 47 ask ("if fewer than now, the first of several. NONE: none, no DEEDS"), 48 leaves ("as now without")
  private static void whoDidIt() {
    deeds("no deeds", filled(hall(2, 9, 0, 0, 0)), 7, -1, 3);
    deeds("nobody can", filled(hall(2, 0, 0, 0), 0, 9), 0, -1, 0);
    deeds("one can", filled(hall(2, 0, 0, 9), 0, 9), 2, -1, 1);
    // "the one does not see himself": each of the three sees the two others.
    deeds("three in one place", filled(hall(2, 9, 0, 0, 0), 0, 5), 7, 0, 2);
    deeds("two in one place", filled(hall(2, 9, 0, 0), 0, 5), 3, 0, 1);
    deeds("each alone: asking tells nothing", filled(hall(2, 9, 0, 1, 2), 0, 5), 7, -1, 3);
    // 0 sees 1 and 4, who is there in hour 0 alone: two are left, or three.
    deeds("two of five", filled(hall(2, 2, 0, 0, 1, 2, 5) + "errand 4 in 0 at 0;", 0, 2), 31, 0, 3);
    // 6 sees 0, so 0 cannot have done it; he sees 1 and 6 of the six who can.
    deeds("one who cannot is asked", filled(hall(1, 9, 3, 3, 0, 0, 1, 1) + "person at 3 to 0;", 0, 5), 126, 0, 4);
    // 3 sees 0, 1 and 2, who see each other: he leaves three of six, as do they.
    deeds("the last is no better than the first", filled(hall(1, 9, 0, 0, 0, 0, 1, 2), 0, 5), 63, 0, 3);
    // In hour 0 all three are apart, in hour 1 in one place: the first deed's hour is asked of.
    String moving = hall(2, 9, 0, 1, 2) + "errand 1 in 0 at 1;errand 2 in 0 at 1;";
    deeds("the first deed's hour is 0", filled(moving, 0, 5, 1, 5), 7, -1, 3);
    deeds("the first deed's hour is 1", filled(moving, 1, 5, 0, 5), 7, 0, 2);
    // The same deed twice is as once; deeds that one alone cannot have done leave nobody.
    deeds("one twice", filled(hall(2, 0, 0, 0, 9), 0, 0, 0, 0), 3, 0, 1);
    deeds("two places at once", filled(hall(2, 0, 0, 9), 0, 0, 0, 9), 0, -1, 0);
    long[] thirty = new long[60];
    for (int i = 0; i < 60; i += 2) thirty[i] = i / 2 % 2;
    deeds("thirty deeds", filled(hall(2, 0, 0, 0, 9), thirty), 3, 0, 1);
    thirty[59] = 9;
    deeds("the thirtieth elsewhere", filled(hall(2, 0, 0, 0, 9), thirty), 0, -1, 0);
    // "fewest": 0 sees nobody; 1 and 2 are together, and so are 3, 4 and 5.
    deeds("not the first, but fewest", filled(hall(1, 9, 0, 1, 1, 2, 2, 2), 0, 5), 63, 3, 4);
  }

  private static void sworn(String name, AlibiRota x, int lies, int liars, int... closed) {
    check.due(name + ": lies", x.lies(0), lies);
    check.due(name + ": liars", x.liars(0), liars);
    for (int p = 0; p < closed.length; p++) check.due(name + ": closed of " + p, x.closed(0, p), closed[p]);
  }

  // ---- 49 lies, 50 liars, 51 closed
  private static void oaths() {
    // 0 and 1 in one place, 2 elsewhere; 1 swears to 0 as it is, so 0 has no gap.
    String three = hall(2, 0, 0) + "person at 0 to 0;person at 1;";
    sworn("no oaths", filled(three), 0, 0, 0, 0, 0);
    sworn("a true one closes a gap", filled(three, 0, 1, 0), 0, 0, 0, 1, 0);
    sworn("twice the same one", filled(three, 0, 1, 0, 0, 1, 0), 0, 0, 0, 1, 0);
    sworn("two hours", filled(three, 0, 1, 0, 0, 1, 1), 0, 0, 0, 2, 0);
    sworn("no gap to close", filled(three, 1, 0, 0), 0, 0, 0, 0, 0);
    sworn("a false one closes none", filled(three, 0, 2, 0), 1, 1, 0, 0, 0);
    sworn("false twice: two lies of one", filled(three, 0, 2, 0, 0, 2, 0), 2, 1, 0, 0, 0);
    sworn("false by two", filled(three, 0, 2, 0, 1, 2, 1), 2, 3, 0, 0, 0);
    sworn("false and true", filled(three, 2, 1, 0, 0, 1, 0), 1, 4, 0, 1, 0);
    long[] twenty = new long[60];
    for (int i = 0; i < 60; i += 3) twenty[i] = 2;
    sworn("twenty", filled(three, twenty), 20, 4, 0, 0, 0);
    // "(now)": what is true changes with a move.
    AlibiRota x = filled(three, 0, 2, 1);
    x.move(2, 1, 0);
    sworn("true now", x, 0, 0, 0, 0, 1);
    x.undo();
    sworn("false again", x, 1, 1, 0, 0, 0);
  }

  private static void worn(String name, AlibiRota x, int many, int[] first, int[] surely) {
    check.due(name + ": worn", x.worn(0), many);
    for (int p = 0; p < first.length; p++) {
      check.due(name + ": wore of " + p, x.wore(0, p), first[p]);
      check.due(name + ": surely of " + p, x.surely(0, p), surely[p]);
    }
  }

  private static int[] all(int n, int v) {
    int[] row = new int[n];
    java.util.Arrays.fill(row, v);
    return row;
  }

  // ---- 52 worn, 53 wore ("NONE: there is none"), 54 surely ("NONE: nobody surely, there is none")
  private static void worn() {
    worn("one person has no rota", filled(hall(1, 0, 0)), 0, all(1, -1), all(1, -1));
    worn("two have one", filled(hall(1, 0, 0, 1)), 1, new int[] {1, 0}, new int[] {1, 0});
    worn("and a gap then", filled(hall(1, 0, 0, 1), 0, 0, 1), 1, new int[] {1, 0}, new int[] {1, 0});
    worn("but not no gap", filled(hall(1, 0, 0, 1), 0, 0, 0), 0, all(2, -1), all(2, -1));
    worn("in one place no gap", filled(hall(1, 0, 0, 0), 0, 0, 0), 1, new int[] {1, 0}, new int[] {1, 0});
    worn("in one place not a gap", filled(hall(1, 0, 0, 0), 0, 0, 1), 0, all(2, -1), all(2, -1));
    // 0 and 1 in one place, 2 in another: in both rotas two have a gap.
    String three = hall(2, 0, 0, 0, 1);
    worn("three have two", filled(three), 2, new int[] {1, 2, 0}, all(3, -1));
    worn("0 is seen: 1 swears to him", filled(three, 0, 1, 0), 1, new int[] {2, 0, 1}, new int[] {2, 0, 1});
    worn("0 is not seen", filled(three, 0, 1, 1), 1, new int[] {1, 2, 0}, new int[] {1, 2, 0});
    worn("one sign twice", filled(three, 0, 1, 1, 0, 1, 1), 1, new int[] {1, 2, 0}, new int[] {1, 2, 0});
    worn("both ways at once", filled(three, 0, 1, 1, 0, 1, 0), 0, all(3, -1), all(3, -1));
    worn("all gaps", filled(three, 0, 0, 1, 1, 0, 1), 0, all(3, -1), all(3, -1));
    // Of nine rotas of four, 3 is seen by 2 alone: 2 swears to him, and the rest is free.
    String four = hall(1, 0, 0, 0, 1, 1);
    worn("surely one of four", filled(four, 3, 0, 0), 3, new int[] {1, 0, 3, 2}, new int[] {-1, -1, 3, -1});
    AlibiRota x = filled(four, 3, 0, 0);
    x.tell(3, 3);
    worn("in rings of three", x, 2, new int[] {1, 2, 3, 0}, new int[] {-1, -1, 3, -1});
    x.swear(0, 3);
    worn("oaths of now are no matter", x, 2, new int[] {1, 2, 3, 0}, new int[] {-1, -1, 3, -1});
    // Each call by itself, and behind another row's signs.
    check.due("wore alone", filled(three, 0, 1, 0).wore(0, 0), 2);
    check.due("surely alone", filled(three, 0, 1, 0).surely(0, 0), 2);
    AlibiRota y = filled(three, 0, 1, 0, 1, 1, 1, 2, 0, 1);
    worn("signs of each", y, 1, new int[] {2, 0, 1}, new int[] {2, 0, 1});
    fill(y, 0, 0);
    worn("and none again", y, 2, new int[] {1, 2, 0}, all(3, -1));
    y.best();
    fill(y, 0, 0, 0, 1, 0);
    y.worn(0);
    y.move(2, 0, 0);
    check.due("signs are no matter to best()", y.best(), 4 - 2);
    check.due("nor to ways()", y.ways(), 2);
    // Seven in one place: all rotas leave nobody a gap; twenty signs at once.
    long[] twenty = new long[60];
    for (int i = 0; i < 60; i += 3) twenty[i] = i / 3 % 7;
    AlibiRota seven = filled(hall(1, 0, 0, 0, 0, 0, 0, 0, 0), twenty);
    worn("seven", seven, 1854, new int[] {1, 0, 3, 2, 5, 6, 4}, all(7, -1));
  }

  private static final long[] CUT = {1L << 8, 1L << 16, 1L << 32};

  // ---- 68 row: "all 0 (in place of another one)"; "at most 60"; "-3, and the SLOT stays: n is below 0"
  private static void rows() {
    for (int s = 0; s < 4; s++) {
      for (int w = 0; w < 4; w++) {
        AlibiRota x = Check.told(TOWN);
        for (int n : new int[] {60, 0, 1, 59}) {
          check.due("row of " + n, x.row(s, w, n), 0);
          check.due("one row", x.count(11), 1);
          check.due("the last number", x.write(s, n - 1, 1), n > 0 ? 0 : -7);
          check.due("the first there is not", x.write(s, n, 1), -7);
          check.due("61", x.row(s, w, 61), -2);
          check.due("-1", x.row(s, w, -1), -3);
          check.due("the least", x.row(s, w, Integer.MIN_VALUE), -3);
          check.due("the row stays", x.write(s, n, 1), -7);
        }
      }
    }
    AlibiRota x = Check.told(TOWN);
    check.due("-2 ahead of -3, slot", x.row(4, 0, -1), -2);
    check.due("-2 ahead of -3, slot", x.row(-1, 0, -1), -2);
    check.due("-2 ahead of -3, width", x.row(0, 4, -1), -2);
    check.due("-2 ahead of -3, width", x.row(0, -1, -1), -2);
    check.due("no row by these", x.count(11), 0);
    check.due("nothing by -3", x.row(0, 0, -1), -3);
    check.due("no row by it", x.count(11), 0);
    check.due("it has nothing", x.write(0, 0, 0), -6);
    fill(x, 0, 0, 2, 1, 2, 1);
    x.row(0, 0, 4);
    holds("all 0 in place of another one", x, 0, 0, 0, 0, 0, 0);
    AlibiRota shorter = Check.told(TOWN);
    fill(shorter, 0, 0, 2, 1, 2, 1);
    shorter.row(0, 0, 2);
    shorter.row(0, 0, 4);
    holds("all 0 behind a shorter one", shorter, 0, 0, 0, 0, 0, 0);
    AlibiRota wider = Check.told(TOWN);
    fill(wider, 0, 0, 2, 1, 2, 1);
    wider.row(0, 3, 3);
    holds("all 0 in another width", wider, 0, 3, 0, 0, 0);
    check.stays("a row that is refused", () -> State.busy(TOWN), y -> {
      for (int s = -1; s < 5; s++) {
        y.row(s, 0, -1);
        y.row(s, 3, 61);
        y.row(s, 4, 0);
        y.row(s, -1, 0);
      }
      y.row(4, 0, 0);
      y.row(-1, 0, 0);
    });
  }

  // ---- 69 write: "Number i of the SLOT's row is v, cut to its WIDTH"; "-6: it has nothing; -7: there is no such number"
  private static void writes() {
    for (int w = 0; w < 4; w++) {
      AlibiRota x = Check.told(TOWN);
      x.row(0, w, 2);
      for (int above = 0; above < 3; above++) {
        x.write(0, 0, CUT[above] * 5 + 1);
        x.write(0, 1, -CUT[above] + 3);
        check.due("width " + w + ", above " + above, x.who(0), above >= w ? x.can(3, 1) : -2);
      }
      x.write(0, 0, 3);
      x.write(0, 1, 5);
      check.due("not cut", x.who(0), x.can(5, 3));
      for (long v : new long[] {-1, Long.MAX_VALUE, 127, 128, 255, 32767, 32768, 65535, 1L << 31, (1L << 32) - 1}) {
        x.write(0, 1, v);
        check.due("width " + w + ", " + v, x.who(0), -2 + (isZero(v, w) ? 2 + x.can(0, 3) : 0));
      }
      check.due("number -1", x.write(0, -1, 0), -7);
      check.due("number 2", x.write(0, 2, 0), -7);
      check.due("the least", x.write(0, Integer.MIN_VALUE, 0), -7);
      check.due("the most", x.write(0, Integer.MAX_VALUE, 0), -7);
      check.due("number 60", x.write(0, 60, 0), -7);
      check.due("nothing", x.write(1, 0, 0), -6);
      check.due("nothing ahead of no such number", x.write(1, -1, 0), -6);
      check.due("no slot", x.write(4, 0, 0), -2);
    }
    check.stays("a write that is refused", () -> State.busy(TOWN), y -> {
      for (int s = -1; s < 5; s++) {
        y.write(s, -1, 5);
        y.write(s, s == 0 ? 2 : s == 1 ? 3 : 0, s < 0 || s > 1 ? 5 : 4);
        y.write(s, 60, 5);
      }
    });
    // A row's last number is not the next one's first.
    AlibiRota x = Check.told(TOWN);
    fill(x, 1, 0, 1, 3);
    x.row(0, 0, 60);
    for (int i = 0; i < 60; i++) x.write(0, i, 3);
    x.write(0, 60, 3);
    check.due("the next one's row", x.who(1), x.can(3, 1));
  }

  private static boolean isZero(long v, int width) { return width < 3 && v << 64 - (8 << width) == 0; }

  /** Reads a row's numbers 0 to 6 back by the object's State. */
  private static void holds(String name, AlibiRota x, int slot, int width, long... v) {
    AlibiRota y = Check.told(TOWN);
    fill(y, slot, width, v);
    check.holds(name, lines(State.of(x), slot).equals(lines(State.of(y), slot)));
  }

  private static String lines(String state, int slot) {
    int from = state.indexOf("width of " + slot);
    int to = state.indexOf("width of " + (slot + 1));
    return state.substring(from, to < 0 ? state.length() : to);
  }

  // ---- 70 paste: "as they were"; "-7, and nothing happens: some are beyond their rows, or a place or n is below 0"
  private static void pastes() {
    for (int w = 0; w < 4; w++) {
      AlibiRota up = filled(TOWN);
      fill(up, 0, w, 1, 2, 3, 4, 5, 6);
      check.due("up its own row", up.paste(0, 0, 0, 1, 5), 0);
      holds("up, as they were", up, 0, w, 1, 1, 2, 3, 4, 5);
      AlibiRota down = filled(TOWN);
      fill(down, 0, w, 1, 2, 3, 4, 5, 6);
      check.due("down its own row", down.paste(0, 1, 0, 0, 5), 0);
      holds("down, as they were", down, 0, w, 2, 3, 4, 5, 6, 6);
      AlibiRota same = filled(TOWN);
      fill(same, 0, w, 1, 2, 3, 4, 5, 6);
      check.due("onto itself", same.paste(0, 0, 0, 0, 6), 0);
      holds("onto itself", same, 0, w, 1, 2, 3, 4, 5, 6);
      AlibiRota other = filled(TOWN);
      fill(other, 0, w, 1, 2, 3, 4);
      fill(other, 1, w, 6, 6, 6);
      check.due("to another one's", other.paste(0, 2, 1, 1, 2), 0);
      holds("is there", other, 1, w, 6, 3, 4);
      AlibiRota from = filled(TOWN);
      fill(from, 0, w, 1, 2, 3, 4);
      fill(from, 1, w, 6, 6, 6);
      from.paste(0, 2, 1, 1, 2);
      holds("and stays here", from, 0, w, 1, 2, 3, 4);
    }
    AlibiRota x = Check.told(TOWN);
    x.row(0, 1, 60);
    x.row(1, 1, 4);
    x.row(2, 1, 0);
    check.due("sixty", x.paste(0, 0, 0, 0, 60), 0);
    check.due("sixty-one", x.paste(0, 0, 0, 0, 61), -7);
    check.due("the last four", x.paste(0, 56, 1, 0, 4), 0);
    check.due("beyond its own row by one", x.paste(0, 57, 1, 0, 4), -7);
    check.due("beyond the other row by one", x.paste(0, 56, 1, 1, 4), -7);
    check.due("beyond the other row by number", x.paste(0, 0, 1, 0, 5), -7);
    check.due("one, the last of both", x.paste(0, 59, 1, 3, 1), 0);
    check.due("one behind the last", x.paste(0, 60, 1, 3, 1), -7);
    check.due("one to behind the last", x.paste(0, 59, 1, 4, 1), -7);
    check.due("none", x.paste(0, 0, 1, 0, 0), 0);
    check.due("none of none", x.paste(2, 0, 2, 0, 0), 0);
    check.due("none to none", x.paste(0, 0, 2, 0, 0), 0);
    check.due("one of none", x.paste(2, 0, 0, 0, 1), -7);
    check.due("one to none", x.paste(0, 0, 2, 0, 1), -7);
    check.due("none at the ends", x.paste(0, 60, 1, 4, 0), 0);
    check.due("a place below 0", x.paste(0, -1, 1, 0, 1), -7);
    check.due("a place below 0", x.paste(0, 0, 1, -1, 1), -7);
    check.due("n below 0", x.paste(0, 1, 1, 1, -1), -7);
    check.due("none from a place below 0", x.paste(0, -1, 1, 0, 0), -7);
    check.due("none to a place below 0", x.paste(0, 0, 1, -1, 0), -7);
    int most = Integer.MAX_VALUE;
    int least = Integer.MIN_VALUE;
    check.due("a place and n that wrap around", x.paste(0, most, 1, 0, most), -7);
    check.due("a place and n that wrap around", x.paste(0, 0, 1, most, 1), -7);
    check.due("a place and n that wrap around", x.paste(0, most, 1, 0, 1), -7);
    check.due("the most numbers", x.paste(0, 1, 1, 1, most), -7);
    check.due("the least", x.paste(0, least, 1, least, least), -7);
    check.due("the least n", x.paste(0, 0, 1, 0, least), -7);
    check.due("behind its own row, though others have numbers there", x.paste(1, 4, 1, 0, 1), -7);
    x.row(2, 0, 4);
    check.due("other widths", x.paste(1, 0, 2, 0, 1), -8);
    check.due("other widths, none", x.paste(1, 0, 2, 0, 0), -8);
    check.due("other widths ahead of beyond", x.paste(1, 9, 2, 0, 1), -8);
    check.due("nothing there", x.paste(3, 0, 0, 0, 1), -6);
    check.due("nothing to put it to", x.paste(0, 0, 3, 0, 1), -6);
    check.due("nothing in both", x.paste(3, 0, 3, 0, 0), -6);
    check.due("nothing ahead of beyond", x.paste(3, -1, 0, 0, -1), -6);
    check.due("no slot ahead of nothing", x.paste(3, 0, 4, 0, 1), -2);
    check.due("no slot ahead of nothing", x.paste(-1, 0, 3, 0, 1), -2);
    check.stays("a paste that is refused", () -> State.busy(TOWN), y -> {
      int[][] calls = {{0, 0, 0, 1, 2}, {0, 1, 0, 0, 2}, {1, 0, 1, 1, 3}, {1, -1, 1, 0, 2}, {1, 0, 1, -1, 2}, {1, 1, 1, 0, -1},
          {1, 0, 0, 0, 1}, {0, 0, 3, 0, 1}, {3, 0, 0, 0, 1}, {4, 0, 0, 0, 1}, {0, 0, 4, 0, 1}, {0, 0, 1, 0, 60}, {2, 0, 0, 0, 1}};
      for (int[] c : calls) check.holds("refused", y.paste(c[0], c[1], c[2], c[3], c[4]) < 0);
    });
  }

  public static void main(String[] args) {
    refusals();
    whoDidIt();
    oaths();
    worn();
    rows();
    writes();
    pastes();
    check.close();
  }
}
