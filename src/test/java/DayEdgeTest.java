/** The edges of promises 37 to 45 and 55 to 59 (terms V to VII): days, deeds, guards, laws, fog. */
public final class DayEdgeTest {
  private static final Check check = new Check("DayEdgeTest");

  private static String city(int hours, int sight, int pace, int odds) {
    return "city places 10 hours " + hours + " sight " + sight + " pace " + pace + " fine 0 ring 2 odds " + odds + ";";
  }

  private static AlibiRota told(String text) {
    AlibiRota x = Check.told(text);
    check.due("no fault in " + text, x.fault(0), 0);
    return x;
  }

  private static void day(String name, AlibiRota x, int tied, int steps, int... places) {
    check.due(name + ": tied", x.tied(0, 1), tied);
    check.due(name + ": steps", x.steps(0, 1), steps);
    for (int h = 0; h < x.count(1); h++) check.due(name + ": ties in " + h, x.ties(0, 1, h), tied < 0 ? -1 : places[h]);
  }

  // ---- V, 37 to 39: "from one HOUR to the next no more than pace PLACES off"; "NONE: he has no such day"
  private static void paces() {
    for (int pace = 0; pace <= 9; pace++) {
      for (int off = 0; off <= 9; off++) {
        String ends = city(2, 0, pace, 0) + "person at 5;person at 9;errand 0 in 0 at 0;errand 0 in " + off + " at 1;";
        boolean can = off <= pace;
        day("pace " + pace + ", off " + off, told(ends), can ? (off == 9 ? 1 : 0) : -1, can ? off : -1, 0, off);
        String back = city(2, 0, pace, 0) + "person at 5;person at 9;errand 0 in " + off + " at 0;errand 0 in 0 at 1;";
        day("back, pace " + pace + ", off " + off, told(back), can ? (off == 9 ? 1 : 0) : -1, can ? off : -1, off, 0);
        // Two hours between: twice as far can be gone.
        String far = city(3, 0, pace, 0) + "person at 5;person at 9;errand 0 in 0 at 0;errand 0 in " + off + " at 2;";
        check.holds("in two, pace " + pace + ", off " + off, told(far).tied(0, 1) >= 0 == off <= 2 * pace);
      }
    }
  }

  // "where his errands tell (told ones, and moved ones); in HOUR 0 any"
  private static void errands() {
    day("home is no matter", told(city(1, 0, 0, 0) + "person at 5;person at 9;"), 1, 0, 9);
    day("any place in all hours", told(city(3, 0, 0, 0) + "person at 5;person at 9;"), 3, 0, 9, 9, 9);
    day("an errand holds him", told(city(1, 0, 9, 0) + "person at 5;person at 9;errand 0 in 2 at 0;"), 0, 0, 2);
    AlibiRota x = told(city(2, 0, 1, 0) + "person at 5;person at 9;");
    day("free", x, 2, 0, 9, 9);
    x.move(0, 1, 7);
    day("moved", x, 0, 0, 6, 7);
    x.move(0, 1, 9);
    day("moved again: the later strikes", x, 2, 0, 9, 9);
    x.move(0, 0, 5);
    day("too far off", x, -1, -1);
    x.undo();
    day("taken back", x, 2, 0, 9, 9);
    x.undo();
    day("as the earlier move", x, 0, 0, 6, 7);
    x.undo();
    day("free again", x, 2, 0, 9, 9);
    x.move(0, 0, 5);
    check.due("a move to where he is", x.at(0, 0), 5);
    day("is an errand", x, 0, 0, 5, 4);
    x.anew();
    day("free again", x, 2, 0, 9, 9);
  }

  // "TIED: the other one is as now"
  private static void otherOne() {
    AlibiRota x = told(city(3, 0, 1, 0) + "person at 0;person at 4;errand 1 in 6 at 1;");
    day("he goes two off and back", x, 2, 0, 4, 3, 4);
    x.move(1, 1, 5);
    day("moved", x, 3, 2, 4, 5, 4);
    x.undo();
    check.due("as it was", x.tied(0, 1), 2);
    // A wall takes sight, not the way.
    day("a wall", told(city(2, 9, 1, 0) + "wall 0;person at 5;person at 1;errand 0 in 0 at 0;"), 1, 1, 0, 1);
  }

  // 38: "by the first such day (the least row)"; 39: "The fewest steps of any such day with so many HOURS"
  private static void firstAndFewest() {
    day("the first has a step, the fewest none", told(city(2, 1, 1, 0) + "person at 0;person at 0;errand 1 in 2 at 1;"), 2, 0, 0, 1);
    day("nobody to see: where he must be", told(city(3, 0, 0, 0) + "person at 5;person at 9;errand 0 in 5 at 1;"), 0, 0, 5, 5, 5);
    day("the least row goes down first", told(city(3, 0, 2, 0) + "person at 5;person at 9;errand 0 in 3 at 1;"), 0, 0, 1, 3, 1);
    // He must be in 0 in the last hour and sees whoever is in 9 till he has to leave.
    AlibiRota x = told(city(12, 0, 1, 0) + "person at 5;person at 9;errand 0 in 0 at 11;");
    day("till he has to leave", x, 3, 9, 9, 9, 9, 8, 7, 6, 5, 4, 3, 2, 1, 0);
    day("twelve hours", told(city(12, 9, 9, 0) + "person at 5;person at 9;"), 12, 0, 0, 0, 0, 0, 0, 0, 0, 0, 0, 0, 0, 0);
    // Each call by itself, and behind another city's days.
    String far = city(2, 0, 9, 0) + "person at 0;person at 0;errand 1 in 9 at 1;";
    check.due("steps alone", told(far).steps(0, 1), 9);
    check.due("ties alone", told(far).ties(0, 1, 1), 9);
    AlibiRota y = told(city(3, 0, 9, 0) + "person at 0;person at 0;errand 1 in 9 at 1;errand 1 in 2 at 2;");
    check.due("three hours", y.steps(0, 1), 16);
    Check.feed(y, far);
    y.city();
    check.due("two hours behind three", y.steps(0, 1), 9);
    Check.feed(y, city(1, 0, 9, 0) + "person at 0;person at 0;");
    y.city();
    check.due("one hour behind two", y.steps(0, 1), 0);
    // More hours go ahead of fewer steps.
    day("many steps for one more hour", told(city(2, 0, 9, 0) + "person at 0;person at 0;errand 1 in 9 at 1;"), 2, 9, 0, 9);
  }

  // ---- VI, 40 deeds, 41 can: "in a PLACE no more than pace off from where he is then"
  private static void deeds() {
    for (int pace = 0; pace <= 9; pace++) {
      AlibiRota x = told(city(12, 0, pace, 0) + "wall 4;person at 4;person at 0;");
      for (int l = 0; l < 10; l++) {
        boolean near = Math.abs(l - 4) <= pace;
        check.due("pace " + pace + ", place " + l, x.deeds(0, l), near ? 4095 : 0);
        check.due("can, pace " + pace + ", place " + l, x.can(l, 11), (near ? 1 : 0) + (l <= pace ? 2 : 0));
      }
    }
    // A gap in hour 1 alone; in hour 2 he is elsewhere.
    AlibiRota x = told(city(3, 0, 0, 0) + "person at 4;person at 4 to 0;errand 1 in 5 at 1;errand 0 in 6 at 2;");
    check.due("the hour of a gap", x.deeds(0, 4), 2);
    check.due("where he is then", x.deeds(0, 6), 4);
    check.due("nowhere else", x.deeds(0, 5), 0);
    check.due("no persons", told(city(1, 0, 9, 0)).can(0, 0), 0);
  }

  // ---- 42 safe
  private static void safe() {
    check.due("no persons: all", told(city(1, 0, 9, 0)).safe(), 1023);
    check.due("no gaps: all", told(city(1, 0, 9, 0) + "person at 0 to 1;person at 0 to 0;").safe(), 1023);
    check.due("none", told(city(1, 0, 9, 0) + "person at 0;").safe(), 0);
    check.due("but where he is", told(city(1, 0, 0, 0) + "person at 9;").safe(), 511);
    check.due("in any hour", told(city(2, 0, 1, 0) + "person at 9;errand 0 in 0 at 1;").safe(), 1023 - 3 - 768);
    check.due("two places", told(RangeTest.BARE + "person at 1;").safe(), 1);
  }

  // ---- 43 guard: "(others) who, if they swore to a PERSON besides, would leave him no DEED"
  private static void guard() {
    // 1 sees 0 in both hours, 2 in hour 0, 3 in hour 1; 0 is in place 0, then in place 5.
    AlibiRota x = told(city(2, 0, 0, 0) + "person at 0;errand 0 in 5 at 1;person at 0;errand 1 in 5 at 1;person at 0;person at 5;");
    check.due("in the first hour", x.guard(0, 0), 2 + 4);
    check.due("in the second", x.guard(0, 5), 2 + 8);
    check.due("no deed there: all others", x.guard(0, 9), 14);
    x.tell(1, 9);
    check.due("both hours", x.guard(0, 9), 2);
    x.swear(2, 0);
    check.due("one swears already: the rest is asked", x.guard(0, 9), 2 + 8);
    x.swear(1, 0);
    check.due("no deed any more: all others", x.guard(0, 0), 14);
    check.due("nobody", told(city(1, 0, 0, 0) + "person at 0;person at 1;").guard(0, 0), 0);
    check.due("no others", told(city(1, 0, 0, 0) + "person at 0;").guard(0, 0), 0);
    check.due("no others, no deed", told(city(1, 0, 0, 0) + "person at 0;").guard(0, 1), 0);
  }

  /** 0 is at home; person j is with him in hour j - 1 alone. */
  private static String oneEach(int hours, int others) {
    StringBuilder s = new StringBuilder(city(hours, 0, 0, 0) + "person at 0;");
    for (int j = 1; j <= others; j++) s.append("person at 9;errand " + j + " in 0 at " + (j - 1) + ";");
    return s.toString();
  }

  // ---- 44 guards, 45 guarded: "The fewest PERSONS (others)", "NONE: all are not enough", "the least set of so few"
  private static void guards(String name, AlibiRota x, int many, int which) {
    check.due(name + ": guards", x.guards(0), many);
    check.due(name + ": guarded", x.guarded(0), which);
  }

  private static void guards() {
    for (int n = 0; n <= 6; n++) {
      if (n > 0) guards(n + " of " + n, told(oneEach(n, n)), n, (1 << n + 1) - 2);
      guards("one too few of " + (n + 1), told(oneEach(n + 1, n)), -1, -1);
    }
    guards("no gap", told(city(2, 0, 0, 0) + "person at 0;person at 0 to 0;person at 0;"), 0, 0);
    guards("the least set", told(city(2, 0, 0, 0) + "person at 0;person at 9;person at 0;person at 0;"), 1, 4);
    guards("few go ahead of least", told(oneEach(2, 2) + "person at 0;"), 1, 8);
    // 1 and 2, or 1 and 3: of two the least.
    guards("the least of two", told(oneEach(2, 2) + "person at 9;errand 3 in 0 at 1;"), 2, 6);
    AlibiRota last = told(city(1, 0, 0, 0) + "person at 0;person at 1;person at 0;");
    check.due("the first guards the last", last.guarded(2), 1);
    check.due("one alone", last.guards(2), 1);
    check.due("nobody", last.guarded(1), -1);
    // 1 swears already, so 2 alone is asked besides.
    AlibiRota x = told(oneEach(2, 2));
    x.swear(1, 0);
    guards("besides", x, 1, 4);
    x.swear(2, 0);
    guards("none besides", x, 0, 0);
  }

  // ---- 55 law: "if from an HOUR on to another one (no less) all count as seen"
  private static void law() {
    AlibiRota x = told(city(12, 0, 0, 0) + "person at 0;person at 0 to 0;");
    check.due("all", x.all(), 12);
    for (int h = 0; h < 12; h++) {
      check.due("one hour", x.law(h, h), 11);
      check.due("from the first", x.law(0, h), 11 - h);
      check.due("to the last", x.law(h, 11), h);
      check.due("no less", x.law(h, h - 1), -2);
    }
    check.due("gaps stay", x.all(), 12);
    check.due("an hour without gaps", told(city(2, 0, 0, 0) + "person at 0 to 1;person at 0 to 0;errand 0 in 1 at 0;").law(1, 1), 2);
    check.due("with all gaps", told(city(2, 0, 0, 0) + "person at 0 to 1;person at 0 to 0;errand 0 in 1 at 0;").law(0, 0), 0);
    check.due("no persons", told(city(2, 0, 0, 0)).law(0, 1), 0);
  }

  private static void fraction(String name, AlibiRota x, long above, long below) {
    check.due(name + ": above", x.chance(0, 0), above);
    check.due(name + ": below", x.chance(0, 1), below);
  }

  /** 1 swears to 0 and sees him from the next place, but not in fog. */
  private static String near(int hours, int odds) { return city(hours, 1, 0, odds) + "person at 0;person at 1 to 0;"; }

  // ---- VII, 56 chance: "FRACTIONS are told in lowest terms (0 / 1)"
  private static void chance() {
    fraction("odds 0", told(near(12, 0)), 1, 1);
    fraction("odds 10", told(near(12, 10)), 0, 1);
    fraction("odds 1", told(near(12, 1)), 282429536481L, 1000000000000L);
    fraction("odds 9", told(near(12, 9)), 1, 1000000000000L);
    fraction("odds 6", told(near(12, 6)), 4096, 244140625);
    fraction("odds 5", told(near(12, 5)), 1, 4096);
    fraction("odds 5, one hour", told(near(1, 5)), 1, 2);
    fraction("odds 2, one hour", told(near(1, 2)), 4, 5);
    fraction("odds 3, one hour", told(near(1, 3)), 7, 10);
    fraction("in one place always", told(city(12, 0, 0, 10) + "person at 0;person at 0 to 0;"), 1, 1);
    fraction("nobody swears", told(city(12, 9, 0, 0) + "person at 0;person at 0;"), 0, 1);
    fraction("a gap in clear air", told(near(2, 5) + "errand 1 in 2 at 1;"), 0, 1);
    fraction("one of two hours in one place", told(near(2, 5) + "errand 1 in 0 at 1;"), 1, 2);
    fraction("another one in his place", told(near(2, 5) + "person at 0 to 0;"), 1, 1);
    fraction("another one in his place who does not swear", told(near(2, 5) + "person at 0;"), 1, 4);
  }

  // ---- 57 likely: "the first of several, if it can be. NONE: none"
  private static void likely() {
    check.due("odds 0", told(near(12, 0)).likely(0), -1);
    check.due("odds 1: the first", told(near(12, 1)).likely(0), 0);
    check.due("in one place always", told(city(12, 0, 0, 10) + "person at 0;person at 0 to 0;").likely(0), -1);
    check.due("in one place at first", told(near(3, 1) + "errand 1 in 0 at 0;").likely(0), 1);
    check.due("surely later", told(near(12, 9) + "errand 1 in 2 at 11;").likely(0), 11);
    check.due("surely, the first of several", told(near(12, 9) + "errand 1 in 2 at 11;errand 1 in 2 at 4;").likely(0), 4);
    check.due("odds 10 is as surely", told(near(12, 10) + "errand 1 in 2 at 11;").likely(0), 0);
    check.due("odds 0, a gap", told(near(12, 0) + "errand 1 in 2 at 11;").likely(0), 11);
    check.due("nobody swears", told(city(12, 9, 0, 0) + "person at 0;").likely(0), 0);
  }

  private static final int[] SEEDS = {0, 1, 1000, 1999999999, 2000000000};
  private static final int[][] DRAWS = {{0, 8, 8, 7, 8, 7, 5, 1, 2, 0, 1, 2}, {8, 8, 3, 5, 1, 7, 0, 9, 2, 6, 9, 7},
      {2, 3, 3, 3, 0, 0, 5, 1, 1, 5, 4, 9}, {3, 3, 6, 9, 1, 1, 9, 0, 5, 8, 9, 4}, {4, 3, 1, 7, 6, 2, 7, 7, 5, 4, 7, 0}};

  private static int below(int[] draws, int hours, int odds) {
    int fog = 0;
    for (int h = 0; h < hours; h++) if (draws[h] < odds) fog |= 1 << h;
    return fog;
  }

  // ---- 58 drawn: "HOUR by HOUR a draw: below odds it has FOG"; "from a seed (0 .. 2,000,000,000)"
  private static void drawn() {
    for (int odds = 0; odds <= 10; odds++) {
      for (int hours : new int[] {1, 5, 12}) {
        AlibiRota x = told(near(hours, odds));
        for (int i = 0; i < SEEDS.length; i++) {
          int fog = below(DRAWS[i], hours, odds);
          String name = "seed " + SEEDS[i] + ", odds " + odds + ", hours " + hours;
          check.due(name + ": fog", x.drawn(SEEDS[i], 0), fog);
          // Nobody swears to 1, so he has a gap in each hour; 0 has one in fog.
          check.due(name + ": who", x.drawn(SEEDS[i], 1), fog == 0 ? 2 : 3);
          check.due(name + ": gaps", x.drawn(SEEDS[i], 2), hours + Integer.bitCount(fog));
          check.due(name + ": luck", x.luck(SEEDS[i], 1, 0), fog == 0 ? 1 : 0);
        }
      }
    }
    AlibiRota bare = told(city(12, 9, 0, 10));
    check.due("no persons: fog", bare.drawn(0, 0), 4095);
    check.due("no persons: nobody", bare.drawn(0, 1), 0);
    check.due("no persons: none", bare.drawn(0, 2), 0);
    AlibiRota close = told(city(12, 0, 0, 10) + "person at 0 to 1;person at 0 to 0;");
    check.due("in one place: nobody", close.drawn(0, 1), 0);
    check.due("in one place: none", close.drawn(0, 2), 0);
  }

  // ---- 59 luck: "Of n (1 .. 20) such from seeds, the seed and 1, .."
  private static void luck() {
    AlibiRota x = told(near(3, 3));
    for (int seed : new int[] {0, 7, 1999999980}) {
      int many = 0;
      for (int n = 1; n <= 20; n++) {
        many += x.drawn(seed + n - 1, 1) == 2 ? 1 : 0;
        check.due("luck " + seed + " " + n, x.luck(seed, n, 0), many);
        check.due("never", x.luck(seed, n, 1), 0);
      }
      check.holds("some, not all: " + many, many > 0 && many < 20);
    }
    AlibiRota clear = told(near(12, 0));
    check.due("always", clear.luck(0, 20, 0), 20);
    check.due("always", clear.luck(2000000000, 20, 0), 20);
    check.due("always", clear.luck(2000000000, 1, 0), 1);
  }

  public static void main(String[] args) {
    paces();
    errands();
    otherOne();
    firstAndFewest();
    deeds();
    safe();
    guard();
    guards();
    law();
    chance();
    likely();
    drawn();
    luck();
    check.close();
  }
}
