import java.lang.reflect.Method;
import java.lang.reflect.Modifier;
import java.util.Set;

/** The edges of promises 60 to 67: acts, what is told anew, counts, images; and that asking changes nothing. */
public final class ActEdgeTest {
  private static final Check check = new Check("ActEdgeTest");
  private static final String TOWN = CityTest.TOWN;
  private static final int LEAST = Integer.MIN_VALUE;
  private static final int MOST = Integer.MAX_VALUE;

  private static AlibiRota acted(int acts) {
    AlibiRota x = Check.told(TOWN);
    for (int i = 0; i < acts; i++) {
      if (i % 2 == 0) x.move(i % 4, i % 3, i % 6);
      else x.swear(i % 4, i % 3 == 0 ? -1 : (i + 1) % 4);
    }
    check.due("acts", x.count(8), acts);
    return x;
  }

  // ---- 60 swear: "(NONE: to nobody) from now on: to whom he did"; "-2: there are none such, one twice"
  private static void swear() {
    AlibiRota x = Check.told(TOWN);
    check.due("to another one", x.swear(0, 3), 1);
    check.due("to whom he swears already", x.swear(0, 3), 3);
    check.due("is an act, too", x.count(8), 2);
    check.due("to nobody", x.swear(0, -1), 3);
    check.due("to nobody again", x.swear(0, -1), -1);
    check.due("is an act, too", x.count(8), 4);
    check.due("of the last to the first", x.swear(3, 0), -1);
    check.due("swears now", x.swears(3), 0);
    check.due("sworn", x.sworn(0), 12);
    check.stays("an oath that is refused", () -> State.busy(TOWN), y -> {
      int[][] calls = {{0, 0}, {3, 3}, {-1, -1}, {-1, 0}, {4, 0}, {4, -1}, {0, 4}, {0, -2}, {LEAST, 0}, {0, LEAST}, {MOST, 0}, {0, MOST}};
      for (int[] c : calls) check.due("swear " + c[0] + " " + c[1], y.swear(c[0], c[1]), -2);
    });
  }

  // ---- 61 move: "from now on: where he was"
  private static void move() {
    AlibiRota x = Check.told(TOWN);
    check.due("from an errand", x.move(0, 1, 5), 2);
    check.due("from there", x.move(0, 1, 0), 5);
    check.due("to where he is", x.move(0, 1, 0), 0);
    check.due("is an act, too", x.count(8), 3);
    check.due("from home, the last of all", x.move(3, 3, 0), 5);
    check.due("is there", x.at(3, 3), 0);
    check.due("another hour is as it was", x.at(3, 2), 5);
    check.stays("a move that is refused", () -> State.busy(TOWN), y -> {
      int[][] calls = {{-1, 0, 0}, {4, 0, 0}, {0, -1, 0}, {0, 4, 0}, {0, 0, -1}, {0, 0, 6}, {LEAST, 0, 0}, {0, MOST, 0}, {0, 0, LEAST}, {MOST, MOST, MOST}};
      for (int[] c : calls) check.due("move " + c[0] + " " + c[1] + " " + c[2], y.move(c[0], c[1], c[2]), -2);
    });
  }

  // "-5: there were 40 acts"; "-2 is asked ahead of -5"
  private static void forty() {
    // 3 has sworn to 0 in the 36th act, and swears to nobody by the 40th.
    check.due("the 40th, an oath", acted(39).swear(3, 1), 0);
    check.due("the 40th, a move", acted(39).move(3, 3, 0), 5);
    check.due("the 41st, an oath", acted(40).swear(3, 1), -5);
    check.due("the 41st, to nobody", acted(40).swear(3, -1), -5);
    check.due("the 41st, a move", acted(40).move(3, 3, 0), -5);
    check.due("the 41st, to where he is", acted(40).move(3, 3, 5), -5);
    AlibiRota x = acted(40);
    int[][] oaths = {{4, 0}, {-1, 0}, {0, 4}, {0, -2}, {1, 1}};
    for (int[] c : oaths) check.due("none such ahead of too many", x.swear(c[0], c[1]), -2);
    int[][] moves = {{4, 0, 0}, {0, 4, 0}, {0, 0, 6}, {-1, 0, 0}, {0, -1, 0}, {0, 0, -1}};
    for (int[] c : moves) check.due("none such ahead of too many", x.move(c[0], c[1], c[2]), -2);
    check.stays("the 41st act", () -> acted(40), y -> {
      y.swear(3, 1);
      y.swear(3, -1);
      y.move(3, 3, 0);
      y.tell(0, 9);
    });
    check.due("undo", x.undo(), 39);
    check.due("room for one", x.swear(3, 2), 0);
    check.due("and no more", x.swear(3, 1), -5);
    check.due("anew", x.anew(), 40);
    for (int i = 1; i <= 40; i++) {
      x.swear(3, i % 3);
      check.due("forty again", x.count(8), i);
    }
    check.due("too many again", x.move(0, 0, 0), -5);
    // Images keep acts, and so does what goes on from them.
    x.image(0);
    x.anew();
    x.back(0);
    check.due("forty by an image", x.count(8), 40);
    check.due("too many by an image", x.swear(0, -1), -5);
    Check.feed(x, TOWN);
    x.city();
    check.due("nothing done in a new city", x.swear(0, -1), 1);
  }

  // ---- 62 undo: "The latest act is taken back: how many there are. -5: there is none"; 63 anew: "All are: how many there were"
  private static void undo() {
    for (int n : new int[] {0, 1, 2, 3, 39, 40}) {
      AlibiRota x = acted(n);
      for (int i = n - 1; i >= 0; i--) {
        check.due("undo", x.undo(), i);
        AlibiRota y = acted(i);
        for (int p = 0; p < 4; p++) {
          check.due("swears as then", x.swears(p), y.swears(p));
          for (int h = 0; h < 4; h++) if (i % 10 < 3) check.due("is as then", x.at(p, h), y.at(p, h));
        }
      }
      check.due("none is left", x.undo(), -5);
      check.due("none is left", x.count(8), 0);
      AlibiRota z = acted(n);
      check.due("anew of " + n, z.anew(), n);
      check.due("none is left", z.count(8), 0);
      check.due("anew again", z.anew(), 0);
      check.holds("all is as told", State.of(z).equals(State.of(Check.told(TOWN))));
    }
    check.stays("an undo of nothing", () -> Check.told(TOWN), x -> { x.undo(); x.anew(); });
    AlibiRota none = new AlibiRota();
    check.due("no city ahead of no act", none.undo(), -2);
    check.due("no city", none.anew(), -2);
    check.due("a refused act is none", refusedActs().undo(), -5);
  }

  private static AlibiRota refusedActs() {
    AlibiRota x = Check.told(TOWN);
    x.swear(0, 0);
    x.move(0, 0, 6);
    x.tell(0, 9);
    return x;
  }

  // ---- 64 tell: "sight (what 0), pace (1), fine (2), ring (3) is n (as told) from now on: what it was. -5: there were acts"
  private static void tell() {
    int[] lowest = {0, 0, 0, 2};
    int[] highest = {9, 9, 99, 3};
    int[] first = {1, 1, 5, 2};
    for (int what = 0; what < 4; what++) {
      AlibiRota x = Check.told(TOWN);
      check.due("what it was", x.tell(what, highest[what]), first[what]);
      check.due("is so", x.count(2 + what), highest[what]);
      check.due("what it was", x.tell(what, lowest[what]), highest[what]);
      check.due("is so", x.count(2 + what), lowest[what]);
      check.due("below", x.tell(what, lowest[what] - 1), -2);
      check.due("above", x.tell(what, highest[what] + 1), -2);
      check.due("stays", x.count(2 + what), lowest[what]);
      check.due("is no act", x.count(8), 0);
      x.swear(0, 1);
      check.due("behind an act", x.tell(what, lowest[what]), -5);
      check.due("none such ahead of acts", x.tell(what, highest[what] + 1), -2);
      x.undo();
      check.due("without acts again", x.tell(what, highest[what]), lowest[what]);
      x.move(0, 0, 0);
      x.anew();
      check.due("anew is no matter to it", x.tell(what, lowest[what]), highest[what]);
    }
    check.stays("a tell that is refused", () -> Check.told(TOWN), x -> {
      int[][] calls = {{-1, 2}, {4, 2}, {LEAST, 2}, {MOST, 2}, {0, -1}, {0, 10}, {1, -1}, {1, 10}, {2, -1}, {2, 100}, {3, 1}, {3, 4}, {0, LEAST}, {2, MOST}};
      for (int[] c : calls) check.due("tell " + c[0] + " " + c[1], x.tell(c[0], c[1]), -2);
    });
    check.stays("a tell behind acts", () -> State.busy(TOWN), x -> { x.tell(0, 9); x.tell(1, 9); x.tell(2, 9); x.tell(3, 3); });
    check.due("what 4 with acts", State.busy(TOWN).tell(4, 2), -2);
    check.due("no city", new AlibiRota().tell(3, 2), -2);
  }

  // What is told anew is asked of from then on.
  private static void toldAnew() {
    AlibiRota x = Check.told("city places 10 hours 2 sight 0 pace 0 fine 1 ring 2 odds 0;person at 0 to 1;person at 9;person at 5;");
    check.due("does not see", x.sees(0, 1, 0), 0);
    check.due("gaps", x.gaps(1), 3);
    x.tell(0, 9);
    check.due("sees", x.sees(0, 1, 0), 1);
    check.due("gaps", x.gaps(1), 0);
    check.due("a deed far off", x.deeds(0, 9), 0);
    x.tell(1, 9);
    check.due("a deed far off", x.deeds(0, 9), 3);
    check.due("a fine", x.fine(0), 3);
    x.tell(2, 99);
    check.due("a fine", x.fine(0), 297);
    Check.feed(x, TOWN);
    x.city();
    check.due("a new text tells its own", x.count(2), 1);
  }

  // ---- 65 count: "NONE for others"
  private static void count() {
    int[] want = {6, 4, 1, 1, 5, 2, 3, 4, 4, 9, 27, 3};
    AlibiRota x = State.busy(TOWN);
    for (int what = 0; what < 12; what++) check.due("count " + what, x.count(what), want[what]);
    for (int what : new int[] {-1, 12, 13, LEAST, MOST}) check.due("count " + what, x.count(what), -1);
    AlibiRota y = Check.told(RangeTest.MOST);
    int[] most = {10, 12, 9, 9, 99, 3, 10, 7, 0, 8, 0, 0};
    for (int what = 0; what < 12; what++) check.due("most " + what, y.count(what), most[what]);
    for (int s = 0; s < 4; s++) {
      y.row(s, 0, 0);
      check.due("rows", y.count(11), s + 1);
    }
    y.row(0, 3, 60);
    check.due("in place of another one", y.count(11), 4);
    AlibiRota none = new AlibiRota();
    for (int what : new int[] {-1, 12}) check.due("count " + what + " without a city", none.count(what), -1);
  }

  // ---- 66 image: "IMAGE k (0 .. 2) keeps the CITY, and acts"; 67 back: "It is as IMAGE k has it"; "-6: it has nothing"
  private static void images() {
    AlibiRota x = Check.told(TOWN);
    for (int k = 0; k < 3; k++) {
      check.due("nothing in " + k, x.back(k), -6);
      x.swear(3, k);
      check.due("image " + k, x.image(k), 0);
      for (int j = k + 1; j < 3; j++) check.due("nothing in " + j + " yet", x.back(j), -6);
    }
    for (int k = 2; k >= 0; k--) {
      check.due("back to " + k, x.back(k), 0);
      check.due("as then", x.swears(3), k);
      check.due("with its acts", x.count(8), k + 1);
    }
    check.due("undo goes on from there", x.undo(), 0);
    check.due("as told", x.swears(3), -1);
    check.due("the image stays", x.back(0), 0);
    check.due("as then", x.swears(3), 0);
    x.swear(3, 2);
    x.image(0);
    x.anew();
    x.back(0);
    check.due("in place of what it had", x.swears(3), 2);
    check.due("another one stays", x.back(1), 0);
    check.due("as then", x.swears(3), 1);
    check.stays("back to an image at once", () -> imaged(), y -> { y.back(2); y.image(2); y.back(2); });
    check.stays("an image or a back that is refused", () -> State.busy(TOWN), y -> {
      for (int k : new int[] {-1, 3, LEAST, MOST}) {
        check.due("image " + k, y.image(k), -2);
        check.due("back " + k, y.back(k), -2);
      }
      check.due("nothing", y.back(2), -6);
    });
    AlibiRota none = new AlibiRota();
    check.due("nothing", none.back(2), -6);
    check.due("no such ahead of nothing", none.back(3), -2);
    check.due("without a city", none.image(2), 0);
    check.due("back to none", none.back(2), 0);
    Check.feed(none, TOWN);
    none.city();
    none.swear(0, 2);
    check.due("back to none", none.back(2), 0);
    check.due("no city", none.all(), -2);
    check.due("no acts", none.count(8), 0);
    check.due("no lines", none.count(9), 0);
  }

  private static AlibiRota imaged() {
    AlibiRota x = State.busy(TOWN);
    x.image(2);
    return x;
  }

  // What an image keeps: tell's numbers, walls, errands; what it does not: tape, fault, rows.
  private static void whatIsKept() {
    AlibiRota x = Check.told(TOWN);
    x.tell(0, 9);
    x.tell(1, 9);
    x.tell(2, 8);
    x.tell(3, 3);
    x.move(1, 1, 0);
    x.image(0);
    String before = answers(x);
    Check.feed(x, RangeTest.MOST);
    x.city();
    Check.feed(x, "x");
    x.city();
    x.row(0, 0, 3);
    x.back(0);
    check.holds("all answers of then", answers(x).equals(before));
    check.due("the tape stays", x.count(10), 1);
    check.due("the fault stays", x.fault(0), 1);
    check.due("rows stay", x.count(11), 1);
    check.due("acts are there", x.tell(0, 1), -5);
    check.due("with an errand in a place behind the wall", x.tied(1, 3), 3);
    check.due("and can be taken back", x.undo(), 0);
    check.due("to where he was", x.at(1, 1), 1);
    check.due("with no errand there", x.tied(1, 3), 4);
  }

  private static String answers(AlibiRota x) {
    StringBuilder s = new StringBuilder();
    for (int what = 0; what < 10; what++) s.append(x.count(what)).append(' ');
    for (int p = 0; p < 4; p++) {
      s.append(x.swears(p)).append(' ').append(x.gaps(p)).append(' ').append(x.rota(p)).append(' ').append(x.tied(p, 3 - p)).append(' ');
      for (int h = 0; h < 4; h++) s.append(x.at(p, h)).append(x.sight(p, h)).append(' ');
    }
    return s + " " + x.best() + " " + x.homebody() + " " + x.safe() + " " + x.dark(2);
  }

  /** Calls that ask alone leave all as it is, whatever they are asked of. */
  private static void askingStays() throws ReflectiveOperationException {
    Set<String> changing = Set.of("feed", "end", "city", "swear", "move", "undo", "anew", "tell", "image", "back", "row", "write", "paste");
    int asked = 0;
    for (Method f : AlibiRota.class.getDeclaredMethods()) {
      if (!Modifier.isPublic(f.getModifiers()) || changing.contains(f.getName())) continue;
      asked++;
      AlibiRota x = State.busy(TOWN);
      int n = f.getParameterCount();
      for (int i = 0; i < (n == 0 ? 2 : n == 1 ? 6 : 36); i++) {
        Object[] args = {i % 6 - 1, i / 6 % 6 - 1, 1};
        f.invoke(x, java.util.Arrays.copyOf(args, n));
      }
      check.holds(f.getName() + " changes nothing", State.of(x).equals(State.of(State.busy(TOWN))));
    }
    check.due("calls that ask alone", asked, 69 - changing.size());
  }

  public static void main(String[] args) throws ReflectiveOperationException {
    swear();
    move();
    forty();
    undo();
    tell();
    toldAnew();
    count();
    images();
    whatIsKept();
    askingStays();
    check.close();
  }
}
