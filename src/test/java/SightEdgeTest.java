/** The edges of promises 6 to 20 and 28 to 34 (terms II): who sees whom, oaths, gaps, fines, places. */
public final class SightEdgeTest {
  private static final Check check = new Check("SightEdgeTest");

  /** A city without walls in which persons stay at home; a number for each name left out is 0, ring 2. */
  private static String city(int places, int hours, int sight, int fine, int... homes) {
    StringBuilder s = new StringBuilder("city places " + places + " hours " + hours + " sight " + sight + " pace 0 fine " + fine + " ring 2 odds 0;");
    for (int home : homes) s.append("person at " + home + ";");
    return s.toString();
  }

  private static AlibiRota told(String text) {
    AlibiRota x = Check.told(text);
    check.due("no fault in " + text, x.fault(0), 0);
    return x;
  }

  /** Each oath is an act: to[p] is whom p swears to. */
  private static AlibiRota sworn(String text, int... to) {
    AlibiRota x = told(text);
    for (int p = 0; p < to.length; p++) x.swear(p, to[p]);
    return x;
  }

  /** One swears to 0 and is with him in all hours but those of the bits. */
  private static AlibiRota withGaps(int hours, int fine, int bits) {
    StringBuilder s = new StringBuilder(city(2, hours, 0, fine, 0) + "person at 0 to 0;");
    for (int h = 0; h < hours; h++) if ((bits >> h & 1) != 0) s.append("errand 1 in 1 at " + h + ";");
    AlibiRota x = told(s.toString());
    check.due("gaps are as meant", x.gaps(0), bits);
    return x;
  }

  // ---- 6 at: "The PLACE in which a PERSON is in an HOUR now"
  private static void at() {
    AlibiRota x = told(city(10, 12, 0, 0, 9) + "errand 0 in 3 at 11;errand 0 in 4 at 0;");
    check.due("an errand in the first hour", x.at(0, 0), 4);
    check.due("at home", x.at(0, 1), 9);
    check.due("an errand in the last hour", x.at(0, 11), 3);
    x.move(0, 11, 0);
    check.due("moved", x.at(0, 11), 0);
    x.undo();
    check.due("taken back", x.at(0, 11), 3);
  }

  // ---- 7 sees: "no more than sight PLACES off with no wall between (in one PLACE always)"
  private static void sees() {
    for (int sight = 0; sight <= 9; sight++) {
      for (int off = 0; off <= 9; off++) {
        AlibiRota x = told(city(10, 1, sight, 0, 0, off));
        check.due("sight " + sight + ", off " + off, x.sees(0, 1, 0), off <= sight ? 1 : 0);
        check.due("and back", x.sees(1, 0, 0), off <= sight ? 1 : 0);
      }
    }
    for (int wall = 0; wall <= 8; wall++) {
      AlibiRota x = told(city(10, 1, 9, 0, 3, 6, 3) + "wall " + wall + ";");
      check.due("from 3 to 6, wall " + wall, x.sees(0, 1, 0), wall < 3 || wall > 5 ? 1 : 0);
      check.due("from 6 to 3, wall " + wall, x.sees(1, 0, 0), wall < 3 || wall > 5 ? 1 : 0);
      check.due("in one place always", x.sees(0, 2, 0), 1);
      check.due("himself", x.sees(1, 1, 0), 1);
    }
    AlibiRota walled = told(city(10, 1, 0, 0, 3, 3) + "wall 2;wall 3;");
    check.due("walls on both sides, sight 0", walled.sees(0, 1, 0), 1);
  }

  // ---- 8 sight: "(himself aside), as bits"
  private static void sight() {
    AlibiRota x = told(city(10, 1, 2, 0, 4, 2, 6, 1, 7, 4));
    check.due("no more than two off", x.sight(0, 0), 2 + 4 + 32);
    check.due("nobody", told(city(2, 1, 0, 0, 0, 1)).sight(0, 0), 0);
    check.due("only himself", told(city(2, 1, 9, 0, 0)).sight(0, 0), 0);
    check.due("all others", told(RangeTest.MOST).sight(6, 11), 63);
    check.due("all others", told(RangeTest.MOST).sight(0, 0), 126);
  }

  // ---- 9 swears: "NONE: nobody"; 10 sworn
  private static void oaths() {
    AlibiRota x = sworn(RangeTest.MOST, 6, 0, 0, 0, 0, 0, 0);
    check.due("to the last", x.swears(0), 6);
    check.due("to the first", x.swears(6), 0);
    check.due("all others", x.sworn(0), 126);
    check.due("one", x.sworn(6), 1);
    check.due("nobody", x.sworn(3), 0);
    x.swear(0, -1);
    check.due("nobody now", x.swears(0), -1);
    check.due("not sworn to", x.sworn(6), 0);
  }

  // ---- 11 gaps: "an HOUR in which nobody who swears to him SEES him (he does not swear to himself)"
  private static void gaps() {
    AlibiRota x = told(RangeTest.MOST);
    check.due("nobody swears: all hours", x.gaps(0), 4095);
    x.swear(0, 1);
    check.due("he swears himself, but nobody to him", x.gaps(0), 4095);
    check.due("one who sees him is enough", x.gaps(1), 0);
    // In hours 0 and 1 one each sees him, in hour 2 none does, in hour 3 both; 3 sees him always and does not swear.
    AlibiRota y = told(city(2, 4, 0, 0, 0) + "person at 1 to 0;errand 1 in 0 at 0;errand 1 in 0 at 3;"
        + "person at 1 to 0;errand 2 in 0 at 1;errand 2 in 0 at 3;person at 0;");
    check.due("one of two is enough", y.gaps(0), 4);
    check.due("one hour", told(city(2, 1, 0, 0, 0)).gaps(0), 1);
  }

  // ---- 12 alone, 13 all
  private static void alone() {
    AlibiRota x = told(RangeTest.MOST);
    for (int h = 0; h < 12; h++) check.due("all have a gap", x.alone(h), 127);
    check.due("84 at most", x.all(), 84);
    for (int p = 0; p < 7; p++) x.swear(p, (p + 1) % 7);
    for (int h = 0; h < 12; h++) check.due("nobody has", x.alone(h), 0);
    check.due("none", x.all(), 0);
    AlibiRota y = told(RangeTest.BARE);
    check.due("no persons", y.alone(0), 0);
    check.due("no persons", y.all(), 0);
    AlibiRota z = withGaps(4, 0, 9);
    int[] want = {3, 2, 2, 3};
    for (int h = 0; h < 4; h++) check.due("alone in " + h, z.alone(h), want[h]);
    check.due("together", z.all(), 6);
  }

  // ---- 14 longest: "The most HOURS one behind the other"; 15 fine: "for the first HOUR of a row of GAPS, twice that for the second, and so on"
  private static void rowsOfGaps() {
    int[][] cases = {{0, 0, 0}, {1, 1, 1}, {1 << 11, 1, 1}, {1 + (1 << 11), 1, 2}, {4095, 12, 78}, {4095 - 1, 11, 66},
        {4095 - (1 << 11), 11, 66}, {4095 - (1 << 5), 6, 15 + 21}, {3 + 24, 2, 6}, {3 + 56, 3, 9}, {7 + 48, 3, 9}, {0x555, 1, 6}, {3 + (3 << 10), 2, 6}};
    for (int[] c : cases) {
      AlibiRota x = withGaps(12, 99, c[0]);
      check.due("longest of " + c[0], x.longest(0), c[1]);
      check.due("fine of " + c[0], x.fine(0), 99 * c[2]);
      check.due("without a fine", withGaps(12, 0, c[0]).fine(0), 0);
      check.due("a fine of 1", withGaps(12, 1, c[0]).fine(0), c[2]);
    }
    check.due("one hour alone", withGaps(1, 7, 1).fine(0), 7);
    check.due("one hour alone", withGaps(1, 7, 1).longest(0), 1);
  }

  // ---- 16 worst: "The PERSON of greatest FINE, the first of several, if he has some. NONE: nobody has"
  private static void worst() {
    check.due("no persons", told(RangeTest.BARE).worst(), -1);
    check.due("no fine", told(city(2, 12, 0, 0, 0, 0)).worst(), -1);
    check.due("the first of several", told(city(2, 12, 0, 99, 0, 0, 0)).worst(), 0);
    check.due("the first has none", sworn(city(2, 1, 0, 1, 0, 0, 0), -1, 0).worst(), 1);
    check.due("no gaps", sworn(city(2, 1, 0, 99, 0, 0), 1, 0).worst(), -1);
    // 0 has gaps in hours 0 and 2 (two fines), 1 in 1 and 2 (three), though as many.
    AlibiRota x = told(city(3, 3, 0, 5, 0, 0) + "person at 0 to 0;errand 2 in 1 at 0;errand 2 in 1 at 2;"
        + "person at 0 to 1;errand 3 in 1 at 1;errand 3 in 1 at 2;person at 0 to 2;errand 4 in 1 at 0;errand 4 in 1 at 2;"
        + "person at 0 to 3;errand 5 in 1 at 1;errand 5 in 1 at 2;");
    x.swear(0, 4);
    x.swear(1, 5);
    check.due("fine of 0", x.fine(0), 10);
    check.due("fine of 1", x.fine(1), 15);
    check.due("the greatest fine, not most gaps", x.worst(), 1);
  }

  // ---- 17 unsworn
  private static void unsworn() {
    check.due("no persons", told(RangeTest.BARE).unsworn(), 0);
    check.due("all", told(RangeTest.MOST).unsworn(), 127);
    check.due("nobody", sworn(RangeTest.MOST, 1, 2, 3, 4, 5, 6, 0).unsworn(), 0);
    check.due("all but one", sworn(RangeTest.MOST, 6, 6, 6, 6, 6, 6, -1).unsworn(), 63);
    check.due("unseen, but sworn to", sworn(city(2, 1, 0, 0, 0, 1), 1).unsworn(), 1);
  }

  // ---- 18 rings, 19 ring ("0: in none"), 20 chain ("till nobody or one that was already")
  private static void rings() {
    int[][] oaths = {{-1, -1, -1, -1, -1, -1, -1}, {1, 2, 3, 4, 5, 6, 0}, {1, 0, 3, 2, 5, 4, -1}, {1, 0, 3, 2, 5, 4, 0},
        {1, 2, 0, 4, 3, 6, 5}, {1, 2, 3, 4, 5, 6, 5}, {1, 2, 3, 4, 5, 6, -1}, {6, 6, 6, 6, 6, 6, 0}, {1, 2, 0, 0, 1, 2, 5}};
    int[] rings = {0, 1, 3, 3, 3, 1, 0, 1, 1};
    int[][] ring = {{0, 0, 0, 0, 0, 0, 0}, {127, 127, 127, 127, 127, 127, 127}, {3, 3, 12, 12, 48, 48, 0}, {3, 3, 12, 12, 48, 48, 0},
        {7, 7, 7, 24, 24, 96, 96}, {0, 0, 0, 0, 0, 96, 96}, {0, 0, 0, 0, 0, 0, 0}, {65, 0, 0, 0, 0, 0, 65}, {7, 7, 7, 0, 0, 0, 0}};
    int[][] chain = {{1, 1, 1, 1, 1, 1, 1}, {7, 7, 7, 7, 7, 7, 7}, {2, 2, 2, 2, 2, 2, 1}, {2, 2, 2, 2, 2, 2, 3},
        {3, 3, 3, 2, 2, 2, 2}, {7, 6, 5, 4, 3, 2, 2}, {7, 6, 5, 4, 3, 2, 1}, {2, 3, 3, 3, 3, 3, 2}, {3, 3, 3, 4, 4, 4, 5}};
    for (int i = 0; i < oaths.length; i++) {
      AlibiRota x = sworn(RangeTest.MOST, oaths[i]);
      check.due("rings " + i, x.rings(), rings[i]);
      for (int p = 0; p < 7; p++) {
        check.due("ring " + i + " of " + p, x.ring(p), ring[i][p]);
        check.due("chain " + i + " of " + p, x.chain(p), chain[i][p]);
      }
    }
    check.due("no persons", told(RangeTest.BARE).rings(), 0);
    // The city's ring 3 is for rotas: a ring of two is one all the same.
    check.due("ring 3 in the text", sworn(RangeTest.MOST, 1, 0).rings(), 1);
  }

  // ---- 28 often, 29 friend: "(another one) whom he SEES most often, the first of several. NONE: there is no other one"
  private static void friends() {
    AlibiRota x = told(city(3, 12, 0, 0, 0, 0, 1) + "errand 1 in 1 at 0;errand 1 in 1 at 11;");
    check.due("ten of twelve", x.often(0, 1), 10);
    check.due("both ways", x.often(1, 0), 10);
    check.due("never", x.often(0, 2), 0);
    check.due("two", x.often(2, 1), 2);
    check.due("all hours", told(RangeTest.MOST).often(0, 6), 12);
    check.due("not himself", x.friend(0), 1);
    check.due("most often", x.friend(1), 0);
    check.due("less is no matter", x.friend(2), 1);
    check.due("the first of several", told(city(2, 2, 0, 0, 0, 0, 0)).friend(2), 0);
    check.due("the first of several, himself aside", told(city(2, 2, 0, 0, 0, 0, 0)).friend(0), 1);
    check.due("never seen, but another one", told(city(3, 2, 0, 0, 0, 1, 2)).friend(0), 1);
    check.due("never seen, but another one", told(city(3, 2, 0, 0, 0, 1, 2)).friend(2), 0);
    check.due("no other one", told(city(3, 2, 9, 0, 0)).friend(0), -1);
    // 1 in one hour, 2 in two, 3 in two.
    AlibiRota y = told(city(3, 2, 0, 0, 0, 0, 0, 0) + "errand 1 in 1 at 0;");
    check.due("more often behind less", y.friend(0), 2);
  }

  // ---- 30 witness, 31 dark: "PLACES that nobody SEES so"
  private static void witness() {
    AlibiRota x = told(city(10, 1, 2, 0, 4, 9) + "wall 4;");
    int[] who = {0, 0, 1, 1, 1, 0, 0, 2, 2, 2};
    int dark = 0;
    for (int l = 0; l < 10; l++) {
      check.due("who sees " + l, x.witness(l, 0), who[l]);
      if (who[l] == 0) dark |= 1 << l;
    }
    check.due("dark", x.dark(0), dark);
    check.due("no persons: all", told("city places 10 hours 12 sight 9 pace 0 fine 0 ring 2 odds 0;").dark(11), 1023);
    check.due("no persons: nobody", told(RangeTest.BARE).witness(0, 0), 0);
    check.due("nowhere", told(RangeTest.MOST).dark(0), 0);
    check.due("all see it", told(RangeTest.MOST).witness(0, 0), 127);
    AlibiRota y = told(city(2, 2, 0, 0, 0) + "errand 0 in 1 at 1;");
    check.due("in hour 0", y.dark(0), 2);
    check.due("in hour 1", y.dark(1), 1);
  }

  // ---- 32 crowd: "the first of several. NONE: there are no PERSONS"
  private static void crowd() {
    check.due("no persons", told(RangeTest.BARE).crowd(0), -1);
    check.due("one in the last place", told(city(10, 1, 0, 0, 9)).crowd(0), 9);
    check.due("the first of several", told(city(10, 1, 0, 0, 9, 3, 3, 9, 5)).crowd(0), 3);
    check.due("most", told(city(10, 1, 0, 0, 9, 3, 3, 9, 9)).crowd(0), 9);
    check.due("each alone", told(city(10, 1, 0, 0, 9, 8, 7)).crowd(0), 7);
    check.due("seven", told(RangeTest.MOST).crowd(11), 9);
  }

  // ---- 33 busiest: "the first of several, if any has one. NONE: none"
  private static void busiest() {
    check.due("no persons", told(RangeTest.BARE).busiest(), -1);
    check.due("none has", sworn(RangeTest.MOST, 1, 2, 3, 4, 5, 6, 0).busiest(), -1);
    check.due("all alike: the first", told(RangeTest.MOST).busiest(), 0);
    check.due("the last hour", withGaps(12, 0, 1 << 11).busiest(), 11);
    check.due("the first of several", withGaps(12, 0, 48).busiest(), 4);
    check.due("one person", told(city(2, 3, 0, 0, 0)).busiest(), 0);
    AlibiRota x = sworn(city(3, 3, 1, 0, 1, 1, 1), 1, 2, 0);
    check.due("none", x.busiest(), -1);
    // 2 stands between 0 and 1, so 1 alone has a gap, in hour 2 alone.
    x.move(0, 2, 0);
    x.move(1, 2, 2);
    check.due("one gap", x.all(), 1);
    check.due("the only one", x.busiest(), 2);
    check.due("who has it", x.alone(2), 2);
  }

  // ---- 34 mutual
  private static void mutual() {
    check.due("no persons", told(RangeTest.BARE).mutual(), 0);
    check.due("none", told(RangeTest.MOST).mutual(), 0);
    check.due("three", sworn(RangeTest.MOST, 1, 0, 3, 2, 5, 4, 0).mutual(), 3);
    check.due("one way", sworn(RangeTest.MOST, 1, -1).mutual(), 0);
    check.due("a ring of three is none", sworn(RangeTest.MOST, 1, 2, 0).mutual(), 0);
    check.due("the last with the first", sworn(RangeTest.MOST, 6, 0, 0, 0, 0, 0, 0).mutual(), 1);
  }

  public static void main(String[] args) {
    at();
    sees();
    sight();
    oaths();
    gaps();
    alone();
    rowsOfGaps();
    worst();
    unsworn();
    rings();
    friends();
    witness();
    crowd();
    busiest();
    mutual();
    check.close();
  }
}
