/** Promises 46 to 54 and 68 to 70: rows, and what is told by them. */
public final class RowTest {
  private static final Check check = new Check("RowTest");

  private static void fill(AlibiRota x, int slot, int width, long... v) {
    x.row(slot, width, v.length);
    for (int i = 0; i < v.length; i++) x.write(slot, i, v[i]);
  }

  private static void who() {
    AlibiRota x = Check.told(CityTest.TOWN);
    check.due("nothing", x.who(0), -6);
    check.due("nothing to ask", x.ask(0), -6);
    check.due("nothing to leave", x.leaves(0), -6);
    check.due("no slot", x.who(4), -2);
    check.due("no slot", x.ask(-1), -2);
    check.due("no slot", x.leaves(4), -2);
    fill(x, 0, 0);
    check.due("no deeds: all can", x.who(0), 15);
    check.due("no deeds: nobody to ask", x.ask(0), -1);
    check.due("no deeds: as now", x.leaves(0), 4);
    fill(x, 0, 0, 0, 2);
    check.due("who", x.who(0), 4);
    check.due("one is left as he is", x.ask(0), -1);
    check.due("leaves one", x.leaves(0), 1);
    fill(x, 0, 3, 1, 3);
    check.due("two", x.who(0), 5);
    check.due("ask", x.ask(0), 1);
    check.due("leaves", x.leaves(0), 1);
    fill(x, 0, 1, 1, 3, 0, 2);
    check.due("both deeds", x.who(0), 4);
    fill(x, 0, 1, 2, 0, 2, 5);
    check.due("nobody", x.who(0), 0);
    check.due("nobody to ask of", x.ask(0), -1);
    check.due("nobody is left", x.leaves(0), 0);
    fill(x, 0, 1, 2);
    check.due("not two each", x.who(0), -2);
    fill(x, 0, 1, 4, 0);
    check.due("no hour", x.ask(0), -2);
    fill(x, 0, 1, 0, 0, 0, 6);
    check.due("no place", x.leaves(0), -2);
    fill(x, 0, 0, 256, 2 + 256);
    check.due("cut to a byte", x.who(0), 4);
    fill(x, 0, 0, 255, 2);
    check.due("255 in a byte", x.who(0), -2);
    fill(x, 0, 1, 65536, 2);
    check.due("cut to two bytes", x.who(0), 4);
    fill(x, 0, 1, 256, 2);
    check.due("not cut to a byte", x.who(0), -2);
    fill(x, 0, 2, 1L << 32, 2);
    check.due("cut to four bytes", x.who(0), 4);
    fill(x, 0, 2, 65536, 2);
    check.due("not cut to two bytes", x.who(0), -2);
    fill(x, 0, 3, 1L << 32, 2);
    check.due("not cut", x.who(0), -2);
  }

  /** In clear sight of each other the one who did it alone is not seen by himself. */
  private static void himself() {
    AlibiRota x = Check.told("city places 2 hours 1 sight 1 pace 1 fine 0 ring 2 odds 0;person at 0;person at 0;");
    fill(x, 0, 0, 0, 1);
    check.due("both", x.who(0), 3);
    check.due("each tells of the other", x.ask(0), 0);
    check.due("one is left", x.leaves(0), 1);
  }

  private static void oaths() {
    AlibiRota x = Check.told(CityTest.TOWN);
    check.due("nothing", x.lies(1), -6);
    check.due("nothing", x.liars(1), -6);
    check.due("nothing", x.closed(1, 0), -6);
    check.due("no person ahead of nothing", x.closed(1, 4), -2);
    check.due("no slot", x.lies(4), -2);
    check.due("no slot", x.liars(-1), -2);
    check.due("no slot", x.closed(4, 0), -2);
    fill(x, 1, 0);
    check.due("no oaths", x.lies(1), 0);
    check.due("no oaths", x.liars(1), 0);
    check.due("no oaths", x.closed(1, 1), 0);
    fill(x, 1, 1, 0, 1, 0, 0, 1, 2, 2, 3, 0, 1, 2, 3);
    check.due("lies", x.lies(1), 2);
    check.due("liars", x.liars(1), 5);
    check.due("no gap there", x.closed(1, 1), 0);
    // 1 sees 0 in hours 0, 1 and 3, all of them gaps of 0; one oath is told twice, one is false.
    fill(x, 1, 2, 1, 0, 0, 1, 0, 0, 1, 0, 3, 1, 0, 2, 0, 1, 1);
    check.due("closed", x.closed(1, 0), 2);
    check.due("one is false", x.lies(1), 1);
    check.due("of the one who was seen", x.closed(1, 1), 0);
    fill(x, 1, 2, 2, 1, 2);
    check.due("closed", x.closed(1, 1), 1);
    x.move(1, 2, 0);
    check.due("false now", x.lies(1), 1);
    fill(x, 1, 2, 2, 2, 2);
    check.due("himself", x.lies(1), -2);
    fill(x, 1, 2, 2, 1);
    check.due("not three each", x.liars(1), -2);
    fill(x, 1, 2, 2, 1, 4);
    check.due("no hour", x.closed(1, 0), -2);
    fill(x, 1, 2, 4, 1, 0);
    check.due("no person", x.lies(1), -2);
    fill(x, 1, 2, 0, -1, 0);
    check.due("no person", x.lies(1), -2);
  }

  private static void worn() {
    AlibiRota x = Check.told(CityTest.TOWN);
    check.due("nothing", x.worn(2), -6);
    check.due("nothing", x.wore(2, 0), -6);
    check.due("nothing", x.surely(2, 0), -6);
    check.due("no person ahead of nothing", x.wore(2, 4), -2);
    check.due("no person ahead of nothing", x.surely(2, -1), -2);
    check.due("no slot", x.worn(-1), -2);
    check.due("no slot", x.wore(4, 0), -2);
    check.due("no slot", x.surely(4, 0), -2);
    fill(x, 2, 0);
    check.due("all rotas", x.worn(2), 9);
    check.due("the first", x.wore(2, 0), 1);
    check.due("nobody surely", x.surely(2, 0), -1);
    fill(x, 2, 2, 1, 2, 0);
    check.due("worn", x.worn(2), 3);
    int[] first = {2, 3, 1, 0};
    for (int p = 0; p < 4; p++) check.due("wore " + p, x.wore(2, p), first[p]);
    check.due("surely", x.surely(2, 2), 1);
    check.due("not surely", x.surely(2, 0), -1);
    fill(x, 2, 2, 1, 2, 1);
    check.due("with a gap", x.worn(2), 6);
    fill(x, 2, 2, 1, 2, 1, 1, 2, 0);
    check.due("both ways", x.worn(2), 0);
    check.due("none wore it", x.wore(2, 0), -1);
    check.due("none surely", x.surely(2, 0), -1);
    check.due("a survey stays", x.best(), 10);
    fill(x, 2, 2, 1, 2, 0);
    x.tell(3, 3);
    check.due("rings of three", x.worn(2), 2);
    fill(x, 2, 2, 1, 2, 2);
    check.due("neither 0 nor 1", x.worn(2), -2);
    fill(x, 2, 2, 1, 2, -1);
    check.due("neither 0 nor 1", x.wore(2, 0), -2);
    fill(x, 2, 2, 4, 2, 1);
    check.due("no person", x.worn(2), -2);
    fill(x, 2, 2, 1, 4, 1);
    check.due("no hour", x.surely(2, 0), -2);
    fill(x, 2, 2, 1, 2, 1, 1);
    check.due("not three each", x.worn(2), -2);
  }

  private static void rows() {
    AlibiRota x = new AlibiRota();
    check.due("none has a row", x.count(11), 0);
    check.due("row", x.row(0, 0, 60), 0);
    check.due("too many", x.row(1, 0, 61), -2);
    check.due("no width", x.row(1, 4, 1), -2);
    check.due("no width", x.row(1, -1, 1), -2);
    check.due("no slot", x.row(4, 0, 1), -2);
    check.due("no slot", x.row(-1, 0, 1), -2);
    check.due("below 0", x.row(0, 0, -1), -3);
    check.due("no slot ahead of below 0", x.row(4, 0, -1), -2);
    check.due("no width ahead of below 0", x.row(0, 4, -1), -2);
    check.due("the slot stays", x.write(0, 59, 1), 0);
    check.due("one row", x.count(11), 1);
    check.due("no such number", x.write(0, 60, 1), -7);
    check.due("no such number", x.write(0, -1, 1), -7);
    check.due("nothing", x.write(1, 0, 1), -6);
    check.due("no slot", x.write(4, 0, 1), -2);
    check.due("no slot", x.write(-1, 0, 1), -2);
    check.due("no slot to paste", x.paste(4, 0, 0, 0, 1), -2);
    check.due("no slot to paste to", x.paste(0, 0, -1, 0, 1), -2);
    check.due("nothing to paste", x.paste(1, 0, 0, 0, 1), -6);
    check.due("nothing to paste to", x.paste(0, 0, 1, 0, 1), -6);
    x.row(1, 1, 4);
    check.due("other widths", x.paste(0, 0, 1, 0, 1), -8);
    check.due("other widths ahead of places", x.paste(0, -1, 1, 0, 1), -8);
    x.row(2, 1, 3);
    check.due("all", x.paste(1, 0, 2, 0, 3), 0);
    check.due("beyond the other one", x.paste(1, 0, 2, 0, 4), -7);
    check.due("beyond its own", x.paste(2, 1, 1, 0, 3), -7);
    check.due("below 0", x.paste(1, -1, 2, 0, 1), -7);
    check.due("below 0", x.paste(1, 0, 2, -1, 1), -7);
    check.due("below 0", x.paste(1, 0, 2, 0, -1), -7);
    check.due("none at the end", x.paste(1, 4, 2, 3, 0), 0);
    check.due("far beyond", x.paste(1, 2147483647, 2, 0, 2147483647), -7);
    check.due("three rows", x.count(11), 3);
  }

  private static void pastes() {
    AlibiRota x = Check.told(CityTest.TOWN);
    // Deeds (0, 2) and (1, 3), moved on by two within one row: as they were, not as they come to be.
    fill(x, 0, 0, 0, 2, 1, 3, 3, 3);
    check.due("paste on its own", x.paste(0, 0, 0, 2, 4), 0);
    fill(x, 1, 0, 0, 0);
    check.due("the last", x.paste(0, 4, 1, 0, 2), 0);
    check.due("is the second", x.who(1), 5);
    check.due("the middle", x.paste(0, 2, 1, 0, 2), 0);
    check.due("is the first", x.who(1), 4);
    check.due("not within", x.paste(0, 2, 1, 1, 2), -7);
    check.due("nothing happened", x.who(1), 4);
    check.due("a new row", x.row(1, 0, 2), 0);
    check.due("is all 0", x.who(1), 1);
    x.row(1, 0, 0);
    x.row(1, 0, 6);
    check.due("is all 0 again", x.who(1), 1);
  }

  public static void main(String[] args) {
    who();
    himself();
    oaths();
    worn();
    rows();
    pastes();
    check.close();
  }
}
