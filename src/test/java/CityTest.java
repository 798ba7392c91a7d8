/** Promises 6 to 45 and 55 to 59 on cities whose answers were worked out by hand. */
public final class CityTest {
  private static final Check check = new Check("CityTest");

  // Places by hour: 0: 0 2 0 0, 1: 1 1 3 1, 2: 3 3 3 2, 3: 5 5 5 5; a wall between 2 and 3.
  static final String TOWN = "city places 6 hours 4 sight 1 pace 1 fine 5 ring 2 odds 3; wall 2;"
      + "person at 0 to 1; person at 1 to 2; person at 3 to 0; person at 5;"
      + "errand 0 in 2 at 1; errand 1 in 3 at 2; errand 2 in 2 at 3;";
  private static final String PAIRS = "city places 5 hours 2 sight 0 pace 0 fine 0 ring 2 odds 0;"
      + "person at 0 to 3;person at 4 to 2;person at 0;person at 4;";

  private static void seeing() {
    AlibiRota x = Check.told(TOWN);
    check.due("at", x.at(0, 1), 2);
    check.due("at home", x.at(0, 2), 0);
    check.due("at no person", x.at(4, 0), -2);
    check.due("at -1", x.at(-1, 0), -2);
    check.due("at no hour", x.at(0, 4), -2);
    check.due("at hour -1", x.at(0, -1), -2);
    check.due("sees", x.sees(0, 1, 0), 1);
    check.due("too far", x.sees(0, 1, 2), 0);
    check.due("a wall", x.sees(0, 2, 1), 0);
    check.due("himself", x.sees(2, 2, 0), 1);
    check.due("sees no other", x.sees(0, 4, 0), -2);
    check.due("sees no hour", x.sees(0, 1, 4), -2);
    check.due("sight", x.sight(1, 3), 5);
    check.due("sight alone", x.sight(3, 3), 0);
    check.due("sight -2", x.sight(4, 0), -2);
    check.due("often", x.often(0, 1), 3);
    check.due("often 1 2", x.often(1, 2), 2);
    check.due("often twice", x.often(1, 1), -2);
    check.due("often none", x.often(1, 4), -2);
    check.due("friend", x.friend(1), 0);
    check.due("friend of few", x.friend(3), 0);
    check.due("friend 2", x.friend(2), 1);
    check.due("friend -2", x.friend(4), -2);
    check.due("witness", x.witness(2, 1), 3);
    check.due("witness beyond the wall", x.witness(4, 0), 12);
    check.due("witness no place", x.witness(6, 0), -2);
    check.due("witness no hour", x.witness(0, 4), -2);
    check.due("dark", x.dark(2), 4);
    check.due("dark nowhere", x.dark(0), 0);
    check.due("dark -2", x.dark(4), -2);
    check.due("crowd", x.crowd(2), 3);
    check.due("crowd, the first", x.crowd(0), 0);
    check.due("crowd -2", x.crowd(-1), -2);
  }

  private static void gaps() {
    AlibiRota x = Check.told(TOWN);
    int[] bits = {15, 4, 3, 15};
    int[] longest = {4, 1, 2, 4};
    int[] fines = {50, 5, 15, 50};
    for (int p = 0; p < 4; p++) {
      check.due("gaps " + p, x.gaps(p), bits[p]);
      check.due("longest " + p, x.longest(p), longest[p]);
      check.due("fine " + p, x.fine(p), fines[p]);
    }
    check.due("gaps -2", x.gaps(4), -2);
    check.due("longest -2", x.longest(-1), -2);
    check.due("fine -2", x.fine(4), -2);
    check.due("alone 0", x.alone(0), 13);
    check.due("alone 2", x.alone(2), 11);
    check.due("alone -2", x.alone(4), -2);
    check.due("all", x.all(), 11);
    check.due("worst", x.worst(), 0);
    x.tell(2, 0);
    check.due("worst without fines", x.worst(), -1);
    check.due("busiest", x.busiest(), 0);
    check.due("law 0 0", x.law(0, 0), 8);
    check.due("law 1 2", x.law(1, 2), 5);
    check.due("law 0 3", x.law(0, 3), 0);
    check.due("law 2 1", x.law(2, 1), -2);
    check.due("law 0 4", x.law(0, 4), -2);
    check.due("law -1 0", x.law(-1, 0), -2);
    // Two rows of gaps: 1, and 1 + 2.
    AlibiRota y = Check.told("city places 3 hours 4 sight 0 pace 0 fine 7 ring 2 odds 0; person at 0 to 1; person at 1; errand 0 in 1 at 1;");
    check.due("fine of two rows", y.fine(1), 7 + 7 + 14);
    check.due("worst is another", y.worst(), 0);
    check.due("fine of one row", y.fine(0), 70);
    check.due("longest of two rows", y.longest(1), 2);
    AlibiRota z = Check.told("city places 2 hours 1 sight 0 pace 0 fine 1 ring 2 odds 0; person at 0 to 1; person at 0;");
    check.due("a fine of 1", z.fine(0), 1);
    check.due("is the worst", z.worst(), 0);
  }

  private static void oaths() {
    AlibiRota x = Check.told(TOWN);
    check.due("swears", x.swears(2), 0);
    check.due("swears to nobody", x.swears(3), -1);
    check.due("swears -2", x.swears(4), -2);
    check.due("sworn", x.sworn(0), 4);
    check.due("sworn -2", x.sworn(-1), -2);
    check.due("unsworn", x.unsworn(), 8);
    check.due("rings", x.rings(), 1);
    check.due("ring", x.ring(1), 7);
    check.due("no ring", x.ring(3), 0);
    check.due("ring -2", x.ring(4), -2);
    check.due("chain", x.chain(0), 3);
    check.due("chain of one", x.chain(3), 1);
    check.due("chain -2", x.chain(4), -2);
    check.due("mutual", x.mutual(), 0);
    x.swear(3, 0);
    check.due("chain into a ring", x.chain(3), 4);
    check.due("not in the ring", x.ring(3), 0);
    check.due("sworn by two", x.sworn(0), 12);
    x.swear(2, 3);
    x.swear(3, 2);
    x.swear(1, 0);
    check.due("two rings", x.rings(), 2);
    check.due("mutual 2", x.mutual(), 2);
    check.due("ring 3", x.ring(3), 12);
  }

  private static void rotas() {
    AlibiRota x = Check.told(TOWN);
    check.due("best", x.best(), 10);
    check.due("ways", x.ways(), 1);
    check.due("fair", x.fair(), 4);
    check.due("clean", x.clean(), 0);
    int[] two = {1, 0, 3, 2};
    for (int p = 0; p < 4; p++) check.due("rota " + p, x.rota(p), two[p]);
    check.due("rota -2", x.rota(4), -2);
    x.tell(3, 3);
    check.due("best of three", x.best(), 11);
    check.due("ways of three", x.ways(), 2);
    int[] three = {1, 2, 3, 0};
    for (int p = 0; p < 4; p++) check.due("rota of three " + p, x.rota(p), three[p]);
    // All see all: every row is clean.
    AlibiRota y = Check.told("city places 2 hours 1 sight 1 pace 0 fine 0 ring 3 odds 0;person at 0;person at 1;person at 1;");
    check.due("clean of three", y.clean(), 2);
    check.due("ways", y.ways(), 2);
    check.due("fair", y.fair(), 0);
    check.due("first", y.rota(0), 1);
    y.tell(3, 2);
    check.due("three in pairs", y.clean(), 2);
    AlibiRota seven = Check.told("city places 2 hours 1 sight 0 pace 0 fine 0 ring 2 odds 0;" + "person at 0;".repeat(7));
    check.due("seven", seven.ways(), 1854);
    seven.tell(3, 3);
    check.due("seven without pairs", seven.clean(), 1140);
  }

  private static void wishes() {
    AlibiRota x = Check.told(TOWN);
    check.due("trade", x.trade(), -1);
    check.due("envy", x.envy(), 0);
    check.due("homebody", x.homebody(), -1);
    check.due("extra", x.extra(), 10);
    AlibiRota y = Check.told(PAIRS);
    check.due("all", y.all(), 8);
    check.due("trade 0 1", y.trade(), 1);
    check.due("envy", y.envy(), 1);
    check.due("extra, the first", y.extra(), 2);
    y.swear(0, 2);
    check.due("no more envy", y.envy(), 0);
    // 0 does not see 1, but 2, who swears to nobody, does.
    AlibiRota z = Check.told("city places 5 hours 2 sight 0 pace 0 fine 0 ring 2 odds 0;"
        + "person at 0 to 1;person at 4;person at 4;");
    check.due("trade with nobody", z.trade(), 2);
    AlibiRota h = Check.told("city places 5 hours 2 sight 0 pace 0 fine 1 ring 2 odds 0;"
        + "person at 0 to 1; person at 0 to 0; errand 1 in 3 at 0; errand 0 in 2 at 1;");
    check.due("no trade with oneself", h.trade(), -1);
    check.due("homebody", h.homebody(), 0);
    h.move(0, 1, 0);
    check.due("homebody 1", h.homebody(), 1);
    h.move(1, 0, 0);
    check.due("no homebody", h.homebody(), -1);
    check.due("no extra", h.extra(), -1);
    check.due("no busiest", h.busiest(), -1);
  }

  private static void days() {
    AlibiRota x = Check.told(TOWN);
    int[] first = {0, 1, 0, 0};
    check.due("tied", x.tied(3, 0), 4);
    check.due("steps", x.steps(3, 0), 0);
    for (int h = 0; h < 4; h++) check.due("ties " + h, x.ties(3, 0, h), first[h]);
    int[] second = {1, 2, 3, 2};
    check.due("tied", x.tied(0, 1), 4);
    check.due("steps", x.steps(0, 1), 2);
    for (int h = 0; h < 4; h++) check.due("ties " + h, x.ties(0, 1, h), second[h]);
    check.due("tied twice", x.tied(1, 1), -2);
    check.due("tied none", x.tied(1, 4), -2);
    check.due("ties no hour", x.ties(0, 1, 4), -2);
    check.due("ties twice", x.ties(1, 1, 0), -2);
    check.due("steps none", x.steps(-1, 0), -2);
    check.due("move", x.move(0, 3, 5), 0);
    check.due("no day", x.tied(0, 1), -1);
    check.due("no day at all", x.ties(0, 1, 0), -1);
    check.due("no steps", x.steps(0, 1), -1);
    check.due("undo", x.undo(), 0);
    check.due("a day again", x.tied(0, 1), 4);
    check.due("moved home is an errand", x.move(0, 3, 0), 0);
    check.due("2 to 0 in two", x.tied(0, 1), 3);
    check.due("steps", x.steps(0, 1), 2);
    check.due("least first", x.ties(0, 1, 0), 1);
  }

  private static void deeds() {
    AlibiRota x = Check.told(TOWN);
    check.due("deeds", x.deeds(0, 2), 2);
    check.due("deeds over a wall", x.deeds(1, 4), 4);
    check.due("no deeds", x.deeds(1, 5), 0);
    check.due("deeds no person", x.deeds(4, 0), -2);
    check.due("deeds no place", x.deeds(0, 6), -2);
    check.due("can", x.can(4, 2), 10);
    check.due("can no place", x.can(-1, 0), -2);
    check.due("can no hour", x.can(0, 4), -2);
    check.due("safe", x.safe(), 0);
    check.due("guard", x.guard(1, 4), 4);
    check.due("guard without deeds", x.guard(1, 5), 13);
    check.due("guard -2", x.guard(1, 6), -2);
    check.due("guard -2", x.guard(4, 0), -2);
    check.due("guards none", x.guards(0), -1);
    check.due("guarded none", x.guarded(0), -1);
    check.due("guards", x.guards(1), 1);
    check.due("guarded", x.guarded(1), 4);
    check.due("guards -2", x.guards(4), -2);
    check.due("guarded -2", x.guarded(-1), -2);
    x.swear(3, 1);
    x.swear(2, 1);
    check.due("no guard is needed", x.guards(1), 0);
    check.due("the empty set", x.guarded(1), 0);
    check.due("no deeds now", x.deeds(1, 4), 0);
    // 1 and 2 see 0 in one hour each, 3 in one of them too: 1 with 2 is the least set.
    AlibiRota y = Check.told("city places 9 hours 2 sight 0 pace 0 fine 0 ring 2 odds 0;person at 0;"
        + "person at 0;errand 1 in 5 at 1;person at 0;errand 2 in 5 at 0;person at 0;errand 3 in 5 at 0;");
    check.due("two guards", y.guards(0), 2);
    check.due("the least two", y.guarded(0), 6);
    check.due("safe places", y.safe(), 511 - 1 - 32);
  }

  private static void fog() {
    String two = "city places 3 hours 3 sight 1 pace 0 fine 2 ring 2 odds 4; person at 0 to 1; person at 1 to 0; errand 1 in 0 at 1;";
    AlibiRota x = Check.told(two);
    check.due("above", x.chance(0, 0), 9);
    check.due("below", x.chance(0, 1), 25);
    check.due("what", x.chance(0, 2), -2);
    check.due("what", x.chance(0, -1), -2);
    check.due("person", x.chance(2, 0), -2);
    check.due("likely", x.likely(0), 0);
    check.due("likely -2", x.likely(2), -2);
    check.due("fog of 0", x.drawn(0, 0), 1);
    check.due("gaps of whom", x.drawn(0, 1), 3);
    check.due("gaps of all", x.drawn(0, 2), 2);
    check.due("fog of 1", x.drawn(1, 0), 4);
    check.due("fog of 2", x.drawn(2, 0), 0);
    check.due("none", x.drawn(2, 1), 0);
    check.due("none", x.drawn(2, 2), 0);
    check.due("fog of the last seed", x.drawn(2000000000, 0), 6);
    check.due("beyond", x.drawn(2000000001, 0), -2);
    check.due("below", x.drawn(-1, 0), -2);
    check.due("what", x.drawn(0, 3), -2);
    check.due("what", x.drawn(0, -1), -2);
    check.due("luck", x.luck(0, 10, 0), 5);
    check.due("luck of one", x.luck(9, 1, 1), 0);
    check.due("luck n 0", x.luck(0, 0, 0), -2);
    check.due("luck n 21", x.luck(0, 21, 0), -2);
    check.due("luck seed", x.luck(2000000001, 1, 0), -2);
    check.due("luck person", x.luck(0, 1, 2), -2);
    check.due("luck beyond the last seed", x.luck(2000000000, 20, 0), 4);
    x.move(1, 2, 2);
    check.due("a gap in clear air", x.likely(0), 2);
    check.due("no chance", x.chance(0, 0), 0);
    check.due("no chance", x.chance(0, 1), 1);
    AlibiRota clear = Check.told(two.replace("odds 4", "odds 0"));
    check.due("sure", clear.chance(0, 0), 1);
    check.due("sure", clear.chance(0, 1), 1);
    check.due("not likely", clear.likely(0), -1);
    check.due("no fog", clear.drawn(0, 0), 0);
    AlibiRota murk = Check.told(two.replace("odds 4", "odds 10"));
    check.due("all fog", murk.drawn(7, 0), 7);
    check.due("never", murk.chance(1, 0), 0);
    AlibiRota long12 = Check.told("city places 2 hours 12 sight 1 pace 0 fine 0 ring 2 odds 9; person at 0 to 1; person at 1;");
    check.due("1 above", long12.chance(1, 0), 1);
    check.due("10 to the 12th below", long12.chance(1, 1), 1000000000000L);
  }

  private static void empty() {
    AlibiRota x = Check.told("city places 3 hours 2 sight 1 pace 1 fine 1 ring 2 odds 5;");
    check.due("best", x.best(), -1);
    check.due("ways", x.ways(), 0);
    check.due("fair", x.fair(), -1);
    check.due("clean", x.clean(), 0);
    check.due("rota", x.rota(0), -2);
    check.due("all", x.all(), 0);
    check.due("alone", x.alone(1), 0);
    check.due("worst", x.worst(), -1);
    check.due("trade", x.trade(), -1);
    check.due("extra", x.extra(), -1);
    check.due("homebody", x.homebody(), -1);
    check.due("busiest", x.busiest(), -1);
    check.due("crowd", x.crowd(1), -1);
    check.due("crowd -2", x.crowd(2), -2);
    check.due("dark", x.dark(0), 7);
    check.due("witness", x.witness(0, 0), 0);
    check.due("safe", x.safe(), 7);
    check.due("can", x.can(0, 0), 0);
    check.due("law", x.law(0, 1), 0);
    check.due("unsworn", x.unsworn(), 0);
    check.due("drawn", x.drawn(1, 1), 0);
    AlibiRota y = Check.told("city places 3 hours 2 sight 1 pace 1 fine 1 ring 2 odds 5;person at 1 to 4;");
    check.due("one: no rota", y.best(), -1);
    check.due("one: no rota", y.rota(0), -1);
    check.due("one: no friend", y.friend(0), -1);
    check.due("one: no guards", y.guards(0), -1);
    check.due("one: the hour", y.likely(0), 0);
  }

  public static void main(String[] args) {
    seeing();
    gaps();
    oaths();
    rotas();
    wishes();
    days();
    deeds();
    fog();
    empty();
    check.close();
  }
}
