/** The edges of promises 21 to 27, 35 and 36 (terms III and IV): rotas, trades, envy, homebody, extra. */
public final class RotaEdgeTest {
  private static final Check check = new Check("RotaEdgeTest");

  private static String city(int hours, int sight, int ring) {
    return "city places 10 hours " + hours + " sight " + sight + " pace 0 fine 0 ring " + ring + " odds 0;";
  }

  private static AlibiRota told(String text) {
    AlibiRota x = Check.told(text);
    check.due("no fault in " + text, x.fault(0), 0);
    return x;
  }

  private static String homes(int... places) {
    StringBuilder s = new StringBuilder();
    for (int l : places) s.append("person at " + l + ";");
    return s.toString();
  }

  private static AlibiRota sworn(String text, int... to) {
    AlibiRota x = told(text);
    for (int p = 0; p < to.length; p++) x.swear(p, to[p]);
    return x;
  }

  private static final int[][] MANY = {{0, 0}, {0, 0}, {1, 0}, {2, 2}, {9, 6}, {44, 24}, {265, 160}, {1854, 1140}};
  private static final int[][][] FIRST = {{{}, {}}, {{-1}, {-1}}, {{1, 0}, {-1, -1}}, {{1, 2, 0}, {1, 2, 0}},
      {{1, 0, 3, 2}, {1, 2, 3, 0}}, {{1, 0, 3, 4, 2}, {1, 2, 3, 4, 0}}, {{1, 0, 3, 2, 5, 4}, {1, 2, 0, 4, 5, 3}},
      {{1, 0, 3, 2, 5, 6, 4}, {1, 2, 0, 4, 5, 6, 3}}};

  // ---- III and 21 to 25: "each to another one, no two to one, its RINGS of ring PERSONS at least (without PERSONS there is none)"
  private static void manyPersons() {
    for (int n = 0; n <= 7; n++) {
      for (int ring = 2; ring <= 3; ring++) {
        int many = MANY[n][ring - 2];
        String name = n + " persons, ring " + ring + ": ";
        AlibiRota x = told(city(12, 9, ring) + "person at 3;".repeat(n));
        check.due(name + "best", x.best(), many > 0 ? 0 : -1);
        check.due(name + "ways", x.ways(), many);
        check.due(name + "fair", x.fair(), many > 0 ? 0 : -1);
        check.due(name + "clean", x.clean(), many);
        for (int p = 0; p < n; p++) check.due(name + "rota of " + p, x.rota(p), FIRST[n][ring - 2][p]);
        check.due(name + "rota behind the last", x.rota(n), -2);
        x.row(0, 0, 0);
        check.due(name + "worn by no signs", x.worn(0), many);
        AlibiRota y = told(city(12, 0, ring) + homes(0, 1, 2, 3, 4, 5, 6).substring(0, 12 * n));
        check.due(name + "unseen, best", y.best(), many > 0 ? 12 * n : -1);
        check.due(name + "unseen, ways", y.ways(), many);
        check.due(name + "unseen, fair", y.fair(), many > 0 ? 12 : -1);
        check.due(name + "unseen, clean", y.clean(), 0);
        for (int p = 0; p < n; p++) check.due(name + "unseen, rota of " + p, y.rota(p), FIRST[n][ring - 2][p]);
      }
    }
  }

  /** 0 and 1 are always together, with 2 in hours 0 and 1, with 3 in hours 2 and 3; 2 and 3 never are. */
  private static final String APART = homes(0, 0, 1, 2) + "errand 2 in 0 at 0;errand 2 in 0 at 1;errand 3 in 0 at 2;errand 3 in 0 at 3;";

  // ---- 21 best: "the least GAPS of all by any"; 24 fair: "The least by which the greatest number of GAPS of one PERSON is least"
  private static void bestIsNotFair() {
    AlibiRota x = told(city(5, 0, 2) + APART);
    int[] pairs = {1, 0, 3, 2};
    check.due("best", x.best(), 10);
    check.due("ways", x.ways(), 1);
    check.due("fair, by another rota", x.fair(), 3);
    check.due("clean", x.clean(), 0);
    for (int p = 0; p < 4; p++) check.due("rota " + p, x.rota(p), pairs[p]);
    x.tell(3, 3);
    int[] round = {1, 2, 3, 0};
    check.due("best in rings of three", x.best(), 11);
    check.due("ways", x.ways(), 4);
    check.due("fair", x.fair(), 3);
    for (int p = 0; p < 4; p++) check.due("the first of four, " + p, x.rota(p), round[p]);
  }

  // 23 ways: "How many ROTAS have so few", though others came first
  private static void bestIsNotFirst() {
    AlibiRota x = told(city(3, 0, 2) + homes(0, 1, 1, 0));
    int[] row = {3, 2, 1, 0};
    check.due("best", x.best(), 0);
    check.due("ways", x.ways(), 1);
    check.due("clean", x.clean(), 1);
    check.due("fair", x.fair(), 0);
    for (int p = 0; p < 4; p++) check.due("rota " + p, x.rota(p), row[p]);
    AlibiRota y = told(city(3, 0, 2) + homes(0, 1));
    check.due("one way", y.ways(), 1);
    y.tell(3, 3);
    check.due("none any more", y.ways(), 0);
    check.due("none any more", y.clean(), 0);
    check.due("none any more", y.best(), -1);
    check.due("none any more", y.fair(), -1);
    check.due("none any more", y.rota(0), -1);
  }

  /** What is kept of an earlier look must not stay behind a change. */
  private static void anew() {
    AlibiRota x = told(city(5, 0, 2) + APART);
    x.best();
    x.swear(0, 2);
    check.due("oaths of now are no matter", x.best(), 10);
    x.move(2, 2, 0);
    check.due("2 and 3 meet in hour 2", x.best(), 8);
    x.undo();
    check.due("no more", x.best(), 10);
    x.anew();
    x.image(0);
    x.tell(0, 9);
    check.due("all see all", x.best(), 0);
    check.due("clean", x.clean(), 9);
    x.back(0);
    check.due("back", x.best(), 10);
    x.row(0, 0, 3);
    x.worn(0);
    check.due("behind worn()", x.ways(), 1);
    check.due("behind worn()", x.rota(3), 2);
    x.city();
    check.due("no city", x.best(), -2);
    check.due("no city", x.rota(0), -2);
  }

  // ---- 26 trade
  private static void trade() {
    check.due("no persons", told(city(2, 0, 2)).trade(), -1);
    check.due("one", told(city(2, 0, 2) + "person at 0;").trade(), -1);
    check.due("nobody swears", told(city(2, 0, 2) + homes(0, 0, 0)).trade(), -1);
    String six = city(2, 0, 2) + homes(0, 1, 0, 1, 0, 1);
    // "the first of several": 0 with 1, and 4 with 5, each close all gaps of two.
    AlibiRota x = sworn(six, 3, 2, -1, -1, 1, 0);
    check.due("all", x.all(), 12);
    check.due("the first of several", x.trade(), 1);
    // "fewest": 2 is away in one hour, so 0 with 1 closes one gap less.
    x.move(2, 0, 9);
    check.due("the fewest, not the first", x.trade(), 45);
    x.undo();
    x.swear(0, 2);
    x.swear(1, 3);
    check.due("the other two are left", x.trade(), 45);
    x.swear(4, 0);
    x.swear(5, 1);
    check.due("\"if fewer than now\"", x.trade(), -1);
    // "(nobody, too)": 1 swears to nobody and would be seen to swear rightly.
    check.due("with nobody", sworn(city(2, 0, 2) + homes(0, 1, 1), 2).trade(), 1);
    check.due("nobody with him", sworn(city(2, 0, 2) + homes(1, 0, 1), -1, 2).trade(), 1);
    // "(neither swears to himself so)": 0 to 2 would close gaps, but 1 then swears to himself.
    check.due("not to himself", sworn(city(2, 0, 2) + homes(0, 1, 0), 1, 2).trade(), -1);
    check.due("not to himself, the other way", sworn(city(2, 0, 2) + homes(1, 0, 0), 2, 0).trade(), -1);
    check.due("each to the other", sworn(city(2, 0, 2) + homes(0, 1), 1, 0).trade(), -1);
    check.due("as many as now", sworn(city(2, 0, 2) + homes(0, 0, 0, 0), 2, 3).trade(), -1);
    check.due("10 times the lesser", sworn(city(2, 0, 2) + homes(0, 0, 1, 1, 9, 0, 1), -1, -1, -1, -1, -1, 2, 0).trade(), 56);
  }

  // ---- IV and 27 envy
  private static AlibiRota two(String text, int first, int second) { return sworn(text, first, second); }

  private static void envy() {
    check.due("no persons", told(city(2, 0, 2)).envy(), 0);
    String four = city(3, 0, 2) + homes(0, 1, 1, 0);
    check.due("each had rather the other's", two(four, 2, 3).envy(), 1);
    check.due("each has what he had rather", two(four, 3, 2).envy(), 0);
    check.due("one swears to nobody", two(four, 2, -1).envy(), 0);
    check.due("the other one swears to nobody", two(four, -1, 3).envy(), 0);
    check.due("both swear to nobody", two(four, -1, -1).envy(), 0);
    check.due("to the first two", sworn(city(3, 0, 2) + homes(1, 0, 0, 1), -1, -1, 0, 1).envy(), 1);
    check.due("both to one", two(four, 2, 2).envy(), 0);
    check.due("one swears to the other one", two(four, 1, 3).envy(), 0);
    check.due("one swears to the other one", two(four, 2, 0).envy(), 0);
    check.due("each to the other one", two(four, 1, 0).envy(), 0);
    // "in more HOURS": 0 sees 3 in two of three, 2 in one; 1 the other way round.
    String close = four + "errand 2 in 0 at 0;errand 3 in 1 at 0;";
    check.due("by one hour", two(close, 2, 3).envy(), 1);
    // In two hours both are seen in one each.
    String even = city(2, 0, 2) + homes(0, 1, 1, 0) + "errand 2 in 0 at 0;errand 3 in 1 at 0;";
    check.due("as many is not more", two(even, 2, 3).envy(), 0);
    // 0 had rather, 1 sees both as often.
    check.due("one alone", two(city(2, 0, 2) + homes(0, 1, 2, 0), 2, 3).envy(), 0);
    check.due("one alone, the other", two(city(2, 0, 2) + homes(0, 1, 1, 2), 2, 3).envy(), 0);
    // 0 and 4 each with 1 and 5; 0 with 4 want the same thing.
    check.due("four pairs", sworn(city(2, 0, 2) + homes(0, 1, 1, 0, 0, 1), 2, 3, -1, -1, 2, 3).envy(), 4);
  }

  // ---- 35 homebody
  private static void homebody() {
    check.due("no persons", told(city(2, 0, 2)).homebody(), -1);
    String pairs = city(3, 0, 2) + "person at 0 to 1;person at 0 to 0;person at 0 to 3;person at 0 to 2;";
    check.due("all are at home", told(pairs).homebody(), -1);
    check.due("by one gap", told(city(2, 0, 2) + "person at 0;person at 0 to 0;errand 1 in 1 at 1;").homebody(), 1);
    String away = pairs + "errand 0 in 1 at 0;errand 2 in 1 at 0;";
    check.due("the first of several", told(away).homebody(), 0);
    check.due("the fewest", told(away + "errand 2 in 1 at 1;").homebody(), 2);
    AlibiRota x = told(pairs);
    x.move(3, 2, 1);
    check.due("a moved one would stay at home, too", x.homebody(), 3);
    // 0 goes to see 1: by staying at home both had a gap.
    check.due("not if more than now", told(city(2, 0, 2) + "person at 0 to 1;person at 1 to 0;errand 0 in 1 at 0;").homebody(), -1);
    // In hour 0 he is with 1, in hour 1 he misses 2 at home: one gap closes and one opens.
    check.due("not if as many", told(city(2, 0, 2) + "person at 0;person at 1 to 0;person at 0 to 0;errand 2 in 9 at 0;"
        + "errand 0 in 1 at 0;errand 0 in 2 at 1;").homebody(), -1);
    check.due("nobody swears", told(city(2, 0, 2) + homes(0, 0) + "errand 0 in 1 at 0;").homebody(), -1);
  }

  // ---- 36 extra
  private static void extra() {
    check.due("no persons", told(city(2, 0, 2)).extra(), -1);
    check.due("one", told(city(2, 9, 2) + "person at 0;").extra(), -1);
    check.due("nobody sees another one", told(city(2, 0, 2) + homes(0, 1, 2)).extra(), -1);
    check.due("no gaps", sworn(city(2, 0, 2) + homes(0, 0), 1, 0).extra(), -1);
    check.due("the first of several", told(city(2, 0, 2) + homes(0, 0, 0)).extra(), 1);
    check.due("to whom nobody swears yet", sworn(city(2, 0, 2) + homes(0, 0), 1).extra(), 10);
    check.due("10 times who swears", told(city(2, 0, 2) + homes(0, 1, 2, 3, 4, 5, 5)).extra(), 56);
    check.due("the greater to the lesser", sworn(city(2, 0, 2) + homes(0, 1, 2, 3, 4, 5, 5), -1, -1, -1, -1, -1, 6).extra(), 65);
    // 0 sees 1 in one hour, 2 sees 3 in two.
    check.due("most", told(city(2, 0, 2) + homes(0, 0, 1, 1) + "errand 1 in 5 at 1;").extra(), 23);
    check.due("by one hour alone", told(city(12, 0, 2) + homes(0, 1) + "errand 1 in 0 at 11;").extra(), 1);
  }

  public static void main(String[] args) {
    manyPersons();
    bestIsNotFair();
    bestIsNotFirst();
    anew();
    trade();
    envy();
    homebody();
    extra();
    check.close();
  }
}
