import java.util.function.IntToLongFunction;

/** Of each promise, what -2 says: each argument's last that is taken, and the first that is refused. */
public final class RangeTest {
  private static final Check check = new Check("RangeTest");
  static final String BARE = "city places 2 hours 1 sight 0 pace 0 fine 0 ring 2 odds 0;";
  static final String MOST = "city places 10 hours 12 sight 9 pace 9 fine 99 ring 3 odds 10;" + "person at 9;".repeat(7);

  private final String text;
  private final int people;
  private final int hours;
  private final int places;

  private RangeTest(String text, int people, int hours, int places) {
    this.text = text;
    this.people = people;
    this.hours = hours;
    this.places = places;
  }

  private String named(String what) { return what + " (" + people + " persons, " + hours + " hours)"; }

  private void person(String what, IntToLongFunction call) { check.within(named(what + ", person"), 0, people - 1, call); }
  private void hour(String what, IntToLongFunction call) { check.within(named(what + ", hour"), 0, hours - 1, call); }
  private void place(String what, IntToLongFunction call) { check.within(named(what + ", place"), 0, places - 1, call); }

  /** Without a person no hour, place or the like is taken either. */
  private void ofPerson(String what, int low, int high, IntToLongFunction call) {
    check.within(named(what), low, people > 0 ? high : low - 1, call);
    if (people == 0) check.due(named(what), call.applyAsLong(high), -2);
  }

  private interface Pairs { long of(int person, int other); }

  /** Another one each: the same one twice is just outside of what is taken. */
  private void pair(String what, Pairs call) {
    check.within(named(what + ", person"), 0, people - 2, p -> call.of(p, people - 1));
    check.due(named(what + ", person behind the last"), call.of(people, 0), -2);
    if (people > 1) check.within(named(what + ", other"), 1, people - 1, o -> call.of(0, o));
    check.due(named(what + ", other -2"), call.of(0, -2), -2);
    check.due(named(what + ", one twice"), call.of(0, 0), -2);
  }

  private void seeing() {
    AlibiRota x = Check.told(text);
    int p = people - 1;
    int h = hours - 1;
    person("at", v -> x.at(v, h));
    ofPerson("at, hour", 0, h, v -> x.at(p, v));
    person("sees", v -> x.sees(v, p, h));
    person("sees, other", v -> x.sees(p, v, h));
    ofPerson("sees, hour", 0, h, v -> x.sees(p, p, v));
    person("sight", v -> x.sight(v, h));
    ofPerson("sight, hour", 0, h, v -> x.sight(p, v));
    person("swears", x::swears);
    person("sworn", x::sworn);
    person("gaps", x::gaps);
    hour("alone", x::alone);
    person("longest", x::longest);
    person("fine", x::fine);
    person("ring", x::ring);
    person("chain", x::chain);
    person("rota", x::rota);
    pair("often", x::often);
    person("friend", x::friend);
    place("witness", v -> x.witness(v, h));
    hour("witness", v -> x.witness(places - 1, v));
    hour("dark", x::dark);
    hour("crowd", x::crowd);
  }

  private void doing() {
    AlibiRota x = Check.told(text);
    int p = people - 1;
    int h = hours - 1;
    int l = places - 1;
    pair("tied", x::tied);
    pair("ties", (a, b) -> x.ties(a, b, h));
    check.within(named("ties, hour"), 0, people > 1 ? h : -1, v -> x.ties(0, p, v));
    pair("steps", x::steps);
    person("deeds", v -> x.deeds(v, l));
    ofPerson("deeds, place", 0, l, v -> x.deeds(p, v));
    place("can", v -> x.can(v, h));
    hour("can", v -> x.can(l, v));
    person("guard", v -> x.guard(v, l));
    ofPerson("guard, place", 0, l, v -> x.guard(p, v));
    person("guards", x::guards);
    person("guarded", x::guarded);
    hour("law, from", v -> x.law(v, h));
    hour("law, to", v -> x.law(0, v));
    check.due(named("law, to less than from"), x.law(h, h - 1), -2);
    person("chance", v -> x.chance(v, 0));
    ofPerson("chance, what", 0, 1, v -> x.chance(p, v));
    person("likely", x::likely);
    ofPerson("luck, seed", 0, 2000000000, v -> x.luck(v, 20, p));
    ofPerson("luck, n", 1, 20, v -> x.luck(0, v, p));
    person("luck", v -> x.luck(0, 1, v));
  }

  private void ofCity() {
    AlibiRota x = Check.told(text);
    long[] got = {x.all(), x.worst(), x.unsworn(), x.rings(), x.best(), x.ways(), x.fair(), x.clean(), x.trade(), x.envy(),
        x.busiest(), x.mutual(), x.homebody(), x.extra(), x.safe(), x.undo(), x.anew()};
    for (int i = 0; i < got.length; i++) check.holds(named("call " + i + " asks for a city alone"), got[i] == -2 == (places == 0));
    int last = places > 0 ? 2000000000 : -1;
    check.within(named("drawn, seed"), 0, last, v -> x.drawn(v, 0));
    check.within(named("drawn, what"), 0, places > 0 ? 2 : -1, v -> x.drawn(0, v));
    int[] lowest = {0, 0, 0, 2};
    int[] highest = {9, 9, 99, 3};
    for (int what = 0; what < 4; what++) {
      int w = what;
      check.within(named("tell " + w + ", n"), lowest[w], places > 0 ? highest[w] : lowest[w] - 1, v -> x.tell(w, v));
    }
    check.within(named("tell, what"), 0, places > 0 ? 3 : -1, v -> x.tell(v, 2));
  }

  private void changing() {
    AlibiRota x = Check.told(text);
    int p = people - 1;
    pair("swear", x::swear);
    person("swear, to nobody", v -> x.swear(v, -1));
    person("move", v -> x.move(v, hours - 1, places - 1));
    ofPerson("move, hour", 0, hours - 1, v -> x.move(p, v, places - 1));
    ofPerson("move, place", 0, places - 1, v -> x.move(p, hours - 1, v));
    check.within(named("image"), 0, 2, x::image);
    check.within(named("back"), 0, 2, x::back);
    check.within(named("row, slot"), 0, 3, v -> x.row(v, 0, 0));
    check.within(named("row, width"), 0, 3, v -> x.row(0, v, 0));
    check.holds(named("row of 60"), x.row(0, 0, 60) == 0);
    check.due(named("row of 61"), x.row(0, 0, 61), -2);
    check.due(named("row of most"), x.row(0, 0, Integer.MAX_VALUE), -2);
    check.within(named("write"), 0, 3, v -> x.write(v, 0, 0));
    check.within(named("paste"), 0, 3, v -> x.paste(v, 0, 0, 0, 0));
    check.within(named("paste to"), 0, 3, v -> x.paste(0, 0, v, 0, 0));
  }

  private void slots() {
    AlibiRota x = Check.told(text);
    for (int s = 0; s < 4; s++) x.row(s, s, 0);
    int last = places > 0 ? 3 : -1;
    int p = people - 1;
    check.within(named("who"), 0, last, x::who);
    check.within(named("ask"), 0, last, x::ask);
    check.within(named("leaves"), 0, last, x::leaves);
    check.within(named("lies"), 0, last, x::lies);
    check.within(named("liars"), 0, last, x::liars);
    check.within(named("worn"), 0, last, x::worn);
    ofPerson("closed, slot", 0, 3, v -> x.closed(v, p));
    person("closed", v -> x.closed(0, v));
    ofPerson("wore, slot", 0, 3, v -> x.wore(v, p));
    person("wore", v -> x.wore(0, v));
    ofPerson("surely, slot", 0, 3, v -> x.surely(v, p));
    person("surely", v -> x.surely(0, v));
  }

  private void run() {
    seeing();
    doing();
    ofCity();
    changing();
    slots();
  }

  public static void main(String[] args) {
    new RangeTest("", 0, 0, 0).run();
    new RangeTest(BARE, 0, 1, 2).run();
    new RangeTest(BARE + "person at 1;", 1, 1, 2).run();
    new RangeTest(BARE + "person at 1;person at 0;", 2, 1, 2).run();
    new RangeTest(CityTest.TOWN, 4, 4, 6).run();
    new RangeTest(MOST, 7, 12, 10).run();
    check.close();
  }
}
