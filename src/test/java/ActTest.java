/** Promises 60 to 67: acts, what is told anew, counts, and images. */
public final class ActTest {
  private static final Check check = new Check("ActTest");

  private static void acts() {
    AlibiRota x = Check.told(CityTest.TOWN);
    check.due("swear", x.swear(0, 2), 1);
    check.due("swears", x.swears(0), 2);
    check.due("to nobody", x.swear(0, -1), 2);
    check.due("from nobody", x.swear(0, 3), -1);
    check.due("himself", x.swear(0, 0), -2);
    check.due("no such", x.swear(0, 4), -2);
    check.due("no such", x.swear(0, -2), -2);
    check.due("no person", x.swear(4, 0), -2);
    check.due("move", x.move(1, 2, 5), 3);
    check.due("is there", x.at(1, 2), 5);
    check.due("move no person", x.move(4, 0, 0), -2);
    check.due("move no hour", x.move(0, 4, 0), -2);
    check.due("move no place", x.move(0, 0, 6), -2);
    check.due("acts", x.count(8), 4);
    check.due("undo", x.undo(), 3);
    check.due("was there", x.at(1, 2), 3);
    check.due("undo", x.undo(), 2);
    check.due("nobody", x.swears(0), -1);
    check.due("anew", x.anew(), 2);
    check.due("as told", x.swears(0), 1);
    check.due("none", x.undo(), -5);
    check.due("none", x.anew(), 0);
    check.due("gaps are as told", x.all(), 11);
  }

  private static void forty() {
    AlibiRota x = Check.told(CityTest.TOWN);
    for (int i = 0; i < 39; i++) check.due("move", x.move(3, 0, i % 6), i == 0 ? 5 : (i - 1) % 6);
    check.due("an act that changes nothing", x.swear(3, -1), -1);
    check.due("too late", x.swear(3, 0), -5);
    check.due("too late", x.move(3, 0, 0), -5);
    check.due("none such first", x.swear(3, 3), -2);
    check.due("none such first", x.move(3, 4, 0), -2);
    check.due("acts", x.count(8), 40);
    check.due("undo", x.undo(), 39);
    check.due("one more", x.swear(3, 0), -1);
    check.due("anew", x.anew(), 40);
    check.due("home", x.at(3, 0), 5);
    check.due("nobody", x.swears(3), -1);
  }

  private static void tell() {
    AlibiRota x = Check.told(CityTest.TOWN);
    check.due("sight", x.tell(0, 9), 1);
    check.due("sees", x.sees(2, 3, 0), 1);
    check.due("still a wall", x.sees(0, 2, 0), 0);
    check.due("pace", x.tell(1, 0), 1);
    check.due("fine", x.tell(2, 99), 5);
    check.due("ring", x.tell(3, 3), 2);
    check.due("was so", x.tell(0, 0), 9);
    int[][] wrong = {{0, -1}, {0, 10}, {1, -1}, {1, 10}, {2, -1}, {2, 100}, {3, 1}, {3, 4}, {4, 2}, {-1, 2}};
    for (int[] w : wrong) check.due("tell " + w[0] + " " + w[1], x.tell(w[0], w[1]), -2);
    int[] now = {6, 4, 0, 0, 99, 3, 3, 4, 0, 9, 0, 0};
    for (int i = 0; i < now.length; i++) check.due("count " + i, x.count(i), now[i]);
    check.due("count 12", x.count(12), -1);
    check.due("count -1", x.count(-1), -1);
    x.swear(0, 1);
    check.due("too late", x.tell(0, 1), -5);
    check.due("none such first", x.tell(0, 10), -2);
    x.undo();
    check.due("not any more", x.tell(0, 1), 0);
  }

  private static void images() {
    AlibiRota x = new AlibiRota();
    check.due("nothing", x.back(0), -6);
    check.due("no such", x.back(3), -2);
    check.due("no such", x.image(3), -2);
    check.due("no such", x.image(-1), -2);
    check.due("without a city", x.image(2), 0);
    Check.feed(x, CityTest.TOWN);
    x.city();
    x.tell(0, 0);
    x.swear(0, 3);
    x.move(0, 0, 5);
    check.due("image", x.image(0), 0);
    x.anew();
    x.tell(0, 9);
    check.due("image", x.image(1), 0);
    Check.feed(x, "city places 2 hours 1 sight 0 pace 0 fine 0 ring 2 odds 0;");
    x.city();
    Check.feed(x, "abc");
    x.row(0, 0, 1);
    check.due("back", x.back(0), 0);
    check.due("the tape is none of it", x.count(10), 3);
    check.due("nor are slots", x.count(11), 1);
    check.due("acts", x.count(8), 2);
    check.due("lines", x.count(9), 9);
    check.due("sight", x.count(2), 0);
    check.due("sees", x.sees(0, 3, 0), 1);
    check.due("undo", x.undo(), 1);
    check.due("does not see", x.sees(0, 3, 0), 0);
    check.due("back again: the image has both", x.back(0), 0);
    check.due("acts", x.anew(), 2);
    check.due("as told", x.swears(0), 1);
    check.due("back to the other", x.back(1), 0);
    check.due("sight", x.count(2), 9);
    check.due("no acts", x.undo(), -5);
    check.due("back to none", x.back(2), 0);
    check.due("no city", x.all(), -2);
    check.due("no persons", x.count(7), 0);
  }

  private static void without() {
    AlibiRota x = new AlibiRota();
    check.due("swear", x.swear(0, -1), -2);
    check.due("move", x.move(0, 0, 0), -2);
    check.due("undo", x.undo(), -2);
    check.due("anew", x.anew(), -2);
    check.due("tell", x.tell(0, 0), -2);
    check.due("drawn", x.drawn(0, 0), -2);
    check.due("law", x.law(0, 0), -2);
  }

  public static void main(String[] args) {
    acts();
    forty();
    tell();
    images();
    without();
    check.close();
  }
}
