/** The edges of a text (terms I, TOKENS, FAULTS) and of promises 1 to 5, a sentence each. */
public final class TextEdgeTest {
  private static final Check check = new Check("TextEdgeTest");
  private static final String[] NAMES = {"places", "hours", "sight", "pace", "fine", "ring", "odds"};
  private static final int[] LOWEST = {2, 1, 0, 0, 0, 2, 0};
  private static final int[] HIGHEST = {10, 12, 9, 9, 99, 3, 10};
  /** 58 bytes; places 0 to 3, hours 0 to 2, walls 0 to 2. */
  private static final String FIRST = "city places 4 hours 3 sight 1 pace 2 fine 7 ring 2 odds 5;";
  private static final int N = FIRST.length();
  private static final String PERSON = "person at 0;";

  private static AlibiRota taken(String text, int lines) {
    AlibiRota x = new AlibiRota();
    Check.feed(x, text);
    check.due("city of '" + text + "'", x.city(), lines);
    check.due("its fault", x.fault(0), 0);
    check.due("its place", x.fault(1), -1);
    return x;
  }

  private static void refused(String text, int fault, int place) {
    AlibiRota x = new AlibiRota();
    Check.feed(x, text);
    check.due("city of '" + text + "'", x.city(), -4);
    check.due("fault of '" + text + "'", x.fault(0), fault);
    check.due("place of '" + text + "'", x.fault(1), place);
  }

  // ---- I. "places 2 .. 10, hours 1 .. 12, sight, pace 0 .. 9, fine 0 .. 99, ring 2 .. 3, odds 0 .. 10"

  private static String cityWith(int which, String number, String rest) {
    StringBuilder s = new StringBuilder("city");
    for (int i = 0; i < 7; i++) s.append(' ').append(NAMES[i]).append(' ').append(i == which ? number : "" + LOWEST[i]);
    return s + ";" + rest;
  }

  private static void cityNumbers() {
    for (int i = 0; i < 7; i++) {
      int place = cityWith(i, "#", "").indexOf('#');
      for (int v : new int[] {LOWEST[i], HIGHEST[i]}) check.due(NAMES[i], taken(cityWith(i, "" + v, ""), 1).count(i), v);
      if (LOWEST[i] > 0) refused(cityWith(i, "" + (LOWEST[i] - 1), ""), 2, place);
      if (LOWEST[i] > 0) refused(cityWith(i, "0", ""), 2, place);
      refused(cityWith(i, "" + (HIGHEST[i] + 1), ""), 2, place);
      refused(cityWith(i, "-1", ""), 1, place);
      refused(cityWith(i, "", ""), 1, place + (i < 6 ? 1 : 0));
      refused(cityWith(i, "x", ""), 1, place);
      check.due("zeros ahead", taken(cityWith(i, "000" + HIGHEST[i], ""), 1).count(i), HIGHEST[i]);
      // As many as wrap around to a number in bounds, in 32 bits and in 64.
      refused(cityWith(i, "" + ((1L << 32) + HIGHEST[i]), ""), 2, place);
      refused(cityWith(i, "184467440737095516" + (16 + LOWEST[i]), ""), 2, place);
      refused(cityWith(i, "9".repeat(300), ""), 2, place);
      check.due("300 zeros", taken(cityWith(i, "0".repeat(300) + HIGHEST[i], ""), 1).count(i), HIGHEST[i]);
    }
  }

  // "city is the first LINE and no other"
  private static void cityFirst() {
    taken(FIRST, 1);
    refused("wall 0;" + FIRST, 1, 0);
    refused(PERSON + FIRST, 1, 0);
    refused("errand 0 in 0 at 0;" + FIRST, 1, 0);
    refused(FIRST + " " + FIRST, 1, N + 1);
    refused(FIRST + PERSON + "city", 1, N + 12);
    refused(FIRST + "wall city;", 1, N + 5);
  }

  private static void cityWords() {
    String[] words = FIRST.substring(0, N - 1).split(" ");
    int place = 0;
    for (int i = 0; i < words.length; i++) {
      String before = FIRST.substring(0, place);
      if (i > 0) refused(before, 1, before.length());
      refused(before + "; wall 0;", 1, place);
      refused(before + (i % 2 == 1 ? words[i].substring(1) : "sea" + words[i]), 1, place);
      if (i % 2 == 1) refused(before + words[i] + "s", 1, place);
      place += words[i].length() + 1;
    }
    refused(FIRST.substring(0, N - 1), 1, N - 1);
    refused(FIRST.substring(0, N - 1) + " ", 1, N);
    refused(FIRST.substring(0, N - 1) + " 5;", 1, N);
    refused(FIRST.replace("hours 3 sight 1", "sight 1 hours 3"), 1, 14);
  }

  // "wall: between PLACE P and the next one (P 0 .. places less 2)"
  private static void walls() {
    taken(FIRST + "wall 0;wall 2;", 3);
    refused(FIRST + "wall 3;", 2, N + 5);
    taken(cityWith(0, "2", "wall 0;"), 2);
    refused(cityWith(0, "2", "wall 1;"), 2, cityWith(0, "2", "wall ").length());
    taken(cityWith(0, "10", "wall 8;wall 8;"), 3);
    refused(cityWith(0, "10", "wall 9;"), 2, cityWith(0, "10", "wall ").length());
    refused(FIRST + "wall 4294967296;", 2, N + 5);
  }

  // "person: PLACE P (his home)"
  private static void homes() {
    AlibiRota x = taken(FIRST + PERSON + "person at 3;", 3);
    for (int h = 0; h < 3; h++) {
      check.due("the first home", x.at(0, h), 0);
      check.due("the last home", x.at(1, h), 3);
    }
    refused(FIRST + "person at 4;", 2, N + 10);
    x = taken(cityWith(0, "10", "person at 9;"), 2);
    check.due("home 9", x.at(0, 0), 9);
    refused(cityWith(0, "10", "person at 10;"), 2, cityWith(0, "10", "person at ").length());
  }

  // "a PERSON A 0 .. 6 to whom he swears, not himself"
  private static void oaths() {
    for (int self = 0; self < 7; self++) {
      String before = FIRST + PERSON.repeat(self) + "person at 0 to ";
      for (int a = 0; a < 8; a++) {
        if (a == self || a == 7) refused(before + a + ";", 2, before.length());
        else check.due("to " + a, taken(before + a + ";" + PERSON.repeat(6 - self), 8).swears(self), a);
      }
      refused(before + "0" + self + ";", 2, before.length());
    }
  }

  // "nobody without; nobody, too, if there is no such PERSON as the text ends"
  private static void nobody() {
    check.due("without", taken(FIRST + PERSON + PERSON, 3).swears(0), -1);
    check.due("the last there is", taken(FIRST + "person at 0 to 1;" + PERSON, 3).swears(0), 1);
    AlibiRota x = taken(FIRST + "person at 0 to 2;" + PERSON, 3);
    check.due("the first there is not", x.swears(0), -1);
    check.due("counts as nobody for chain", x.chain(0), 1);
    check.due("swear tells nobody", x.swear(0, 1), -1);
    check.due("to 6 of six", taken(FIRST + "person at 0 to 6;" + PERSON.repeat(5), 7).swears(0), -1);
    check.due("to 6 of seven", taken(FIRST + "person at 0 to 6;" + PERSON.repeat(6), 8).swears(0), 6);
  }

  // "errand: a PERSON told ahead is in P in HOUR H (a later one of both strikes)"
  private static void errands() {
    AlibiRota x = taken(FIRST + PERSON + PERSON + "errand 1 in 3 at 2;errand 0 in 0 at 0;", 5);
    check.due("errand", x.at(1, 2), 3);
    check.due("another hour is none", x.at(1, 1), 0);
    check.due("another person has none", x.at(0, 2), 0);
    refused(FIRST + PERSON + "errand 1 in 0 at 0;" + PERSON, 2, N + 19);
    refused(FIRST + "errand 0 in 0 at 0;", 2, N + 7);
    refused(FIRST + PERSON.repeat(7) + "errand 7 in 0 at 0;", 2, N + 91);
    check.due("the last of seven", taken(FIRST + PERSON.repeat(7) + "errand 6 in 2 at 0;", 9).at(6, 0), 2);
    refused(FIRST + PERSON + "errand 0 in 4 at 0;", 2, N + 24);
    refused(FIRST + PERSON + "errand 0 in 3 at 3;", 2, N + 29);
    x = taken(FIRST + PERSON + "errand 0 in 1 at 0;errand 0 in 2 at 0;errand 0 in 3 at 1;", 5);
    check.due("the later one", x.at(0, 0), 2);
    check.due("of another hour", x.at(0, 1), 3);
    check.due("the later one is home", taken(FIRST + PERSON + "errand 0 in 1 at 0;errand 0 in 0 at 0;", 4).at(0, 0), 0);
    String twelve = cityWith(1, "12", PERSON);
    check.due("hour 11", taken(twelve + "errand 0 in 1 at 11;", 3).at(0, 11), 1);
    refused(twelve + "errand 0 in 1 at 12;", 2, twelve.length() + 17);
  }

  private static void lineWords() {
    String[] lines = {"wall 0", "person at 0", "person at 0 to 1", "errand 0 in 1 at 2"};
    for (String line : lines) {
      String before = FIRST + PERSON + PERSON;
      taken(before + line + ";", 4);
      refused(before + line, 1, before.length() + line.length());
      refused(before + line + " wall 0;", 1, before.length() + line.length() + 1);
      refused(before + line + " 0;", 1, before.length() + line.length() + 1);
      int place = before.length();
      for (String token : line.split(" ")) {
        refused(FIRST + PERSON + PERSON + line.substring(0, place - before.length()) + "; wall 0;", 1, place);
        refused(FIRST + PERSON + PERSON + line.substring(0, place - before.length()) + "z" + token, 1, place);
        place += token.length() + 1;
        if (token.equals("0") && line.equals("person at 0 to 1")) break;
      }
    }
    refused(FIRST + PERSON + "person at 0 to;", 1, N + 26);
    refused(FIRST + PERSON + "person at 0 at 1;", 1, N + 24);
    refused(FIRST + ";", 1, N);
    refused(FIRST + "0;", 1, N);
  }

  // "PERSONS 0 .. 6 are numbered as they stand"
  private static void numbered() {
    AlibiRota x = taken(FIRST + "person at 3;wall 1;person at 1;errand 0 in 2 at 1;person at 2;", 6);
    int[] homes = {3, 1, 2};
    for (int p = 0; p < 3; p++) check.due("person " + p, x.at(p, 0), homes[p]);
    check.due("persons", x.count(7), 3);
  }

  // TOKENS: "blanks (32, 10) aside, the longest: words (a .. z), numbers (digits), the sign ;"
  private static void tokens() {
    for (int sign = 0; sign < 256; sign++) {
      String text = FIRST + (char) sign + "wall 0;";
      if (sign == 32 || sign == 10) taken(text, 2);
      else refused(text, 1, N);
      // Behind a number: a digit makes it longer, the sign ; ends it, all else is a token of its own.
      String behind = FIRST + "wall 0" + (char) sign;
      if (sign == ';') taken(behind, 2);
      else if (sign >= '0' && sign <= '2') refused(behind, 1, N + 7);
      else if (sign >= '3' && sign <= '9') refused(behind, 2, N + 5);
      else refused(behind, 1, sign == 32 || sign == 10 ? N + 7 : N + 6);
      // Within a word: a letter makes another word of it, all else two.
      String within = FIRST + "wa" + (char) sign + "ll 0;";
      refused(within, 1, N);
    }
    taken(FIRST.replace(" ", "\n"), 1);
    taken(FIRST.replace(" ", "  \n\n "), 1);
    taken("city places4hours3sight1pace2fine7ring2odds5;person at0to1;errand0in1at2;", 3);
    refused("cityplaces 4", 1, 0);
    refused("city places 4 4", 1, 14);
    refused("city places 1 0 hours", 2, 12);
    taken(FIRST + "wall 00000000000000000002;", 2);
  }

  // FAULTS: "the first by its place (a TOKEN's first byte; the end's), of one place the least"
  private static void faultPlaces() {
    refused("city places 11 hours 13 #", 2, 12);
    refused("city # places 11", 1, 5);
    refused("   city\n\nplaces  x", 1, 17);
    refused("city", 1, 4);
    refused("city   ", 1, 7);
    refused("c", 1, 0);
    refused(" #", 1, 1);
    // A number that cannot stand there is 1, however great.
    refused("999999", 1, 0);
    refused("city 99", 1, 5);
    refused(FIRST + "99;", 1, N);
    refused(FIRST + PERSON + "errand 0 99", 1, N + 21);
    // One of them is found only at the end of a tape that is full.
    String full = FIRST + " ".repeat(1200 - N - 4) + "wall";
    refused(full, 1, 1200);
    taken(FIRST + " ".repeat(1200 - N - 7) + "wall 0;", 2);
    taken(FIRST + "wall0;".repeat(190) + "  ", 191);
  }

  // "3 an 8th person, at his word"
  private static void eighth() {
    String seven = FIRST + PERSON.repeat(7);
    AlibiRota x = taken(seven, 8);
    check.due("seven", x.count(7), 7);
    refused(seven + "person", 3, seven.length());
    refused(seven + " wall 0;\nperson at 9 to 9", 3, seven.length() + 9);
    refused(seven + "person #", 3, seven.length());
    refused(seven + "persons", 1, seven.length());
    refused(seven + "perso", 1, seven.length());
    refused(seven + "#person", 1, seven.length());
    taken(seven + "wall 0;errand 6 in 0 at 0;", 10);
  }

  // ---- promise 1: "No CITY."
  private static void newObject() {
    AlibiRota x = new AlibiRota();
    for (int what = 0; what < 12; what++) check.due("count " + what, x.count(what), 0);
    check.due("all", x.all(), -2);
    for (int k = 0; k < 3; k++) check.due("no image " + k, x.back(k), -6);
    for (int s = 0; s < 4; s++) check.due("no row " + s, x.write(s, 0, 0), -6);
    check.due("NONE", AlibiRota.NONE, -1);
  }

  private static final int BLANKS = 0x20202020;

  private static AlibiRota blank(int feeds) {
    AlibiRota x = new AlibiRota();
    for (int i = 0; i < feeds; i++) x.feed(BLANKS, BLANKS, BLANKS, BLANKS, BLANKS);
    return x;
  }

  // ---- promise 2: "how many it has; NONE, and none come, if it would have more than 1,200"
  private static void feeding() {
    AlibiRota x = blank(59);
    check.due("1,180", x.count(10), 1180);
    check.due("the last that is taken", x.feed(BLANKS, BLANKS, BLANKS, BLANKS, BLANKS), 1200);
    check.due("the first that is refused", x.feed(BLANKS, BLANKS, BLANKS, BLANKS, BLANKS), -1);
    check.due("none came", x.count(10), 1200);
    x.end(1181);
    check.due("one too many", x.feed(0, 0, 0, 0, 0), -1);
    check.due("none came", x.count(10), 1181);
    check.due("nor do its bytes", x.city(), 0);
    check.stays("feed to a full tape", () -> fullBusy(), y -> y.feed(1, 2, 3, 4, 5));
    x = blank(60);
    x.city();
    check.due("an empty tape takes again", x.feed(-1, -1, -1, -1, -1), 20);
    check.due("a byte of 255", x.city(), -4);
    check.due("at the first", x.fault(1), 0);
    // The highest byte of each number first: blanks, then a sign.
    for (int i = 0; i < 20; i++) {
      int[] v = {BLANKS, BLANKS, BLANKS, BLANKS, BLANKS};
      v[i / 4] = BLANKS & ~(255 << 24 - i % 4 * 8) | 0xE9 << 24 - i % 4 * 8;
      AlibiRota y = blank(1);
      y.feed(v[0], v[1], v[2], v[3], v[4]);
      y.city();
      check.due("byte " + i, y.fault(1), 20 + i);
    }
  }

  private static AlibiRota fullBusy() {
    AlibiRota x = State.busy(CityTest.TOWN);
    x.end(0);
    for (int i = 0; i < 60; i++) x.feed(BLANKS, BLANKS, BLANKS, BLANKS, BLANKS);
    return x;
  }

  // ---- promise 3: "n; NONE, and nothing happens, if it has not so many, or n is below 0"
  private static void ending() {
    AlibiRota x = new AlibiRota();
    check.due("end(0) of an empty one", x.end(0), 0);
    check.due("end(1) of an empty one", x.end(1), -1);
    Check.feed(x, "0123456789012345678901234");
    check.due("one more", x.end(26), -1);
    check.due("below 0", x.end(-1), -1);
    check.due("the least", x.end(Integer.MIN_VALUE), -1);
    check.due("the most", x.end(Integer.MAX_VALUE), -1);
    check.due("all stay", x.count(10), 25);
    check.due("as many", x.end(25), 25);
    check.due("one less", x.end(24), 24);
    check.due("gone is gone", x.end(25), -1);
    check.due("none", x.end(0), 0);
    check.due("no bytes", x.city(), 0);
    check.stays("end beyond", () -> State.busy(CityTest.TOWN), y -> { y.end(28); y.end(-1); });
    x = new AlibiRota();
    Check.feed(x, "city places 9");
    x.end(12);
    Check.feed(x, FIRST.substring(12));
    check.due("bytes come behind what is left", x.city(), 1);
  }

  // ---- promise 4: "The TAPE (empty then) is the CITY (in place of another), nothing done: how many LINES (0: there is none then)"
  private static void telling() {
    AlibiRota x = State.busy(CityTest.TOWN);
    check.due("acts", x.count(8), 4);
    check.due("bytes", x.count(10), 27);
    x.end(0);
    Check.feed(x, FIRST + PERSON);
    check.due("lines", x.city(), 2);
    check.due("empty then", x.count(10), 0);
    check.due("nothing done", x.count(8), 0);
    check.due("nothing to undo", x.undo(), -5);
    check.due("in place of another", x.count(7), 1);
    check.due("no old walls, errands", x.at(0, 1), 0);
    check.due("images stay", x.back(1), 0);
    check.due("with their acts", x.count(8), 3);
    check.due("rows stay", x.count(11), 3);
    check.due("no bytes: no lines", x.city(), 0);
    check.due("there is none then", x.all(), -2);
    check.due("nor persons", x.count(7), 0);
    check.due("nor acts", x.count(8), 0);
    AlibiRota y = taken(FIRST + "wall 0;person at 0;person at 1;person at 2;errand 2 in 1 at 1;person at 2 to 0;", 7);
    for (int i = 0; i < 4; i++) {
      Check.feed(y, FIRST + "person at 0;person at 1;person at 3;");
      check.due("another", y.city(), 4);
      check.due("no wall of the one before", y.sees(0, 1, 0), 1);
      check.due("no errand of it", y.at(2, 1), 3);
      check.due("nor in days", y.tied(2, 0), 3);
      check.due("no person of it", y.count(7), 3);
      check.due("no oath of it", y.sworn(0), 0);
      check.due("no act of it", y.count(8), 0);
      y.swear(0, 1);
      if (i == 1) Check.feed(y, FIRST + "wall 0;person at 3;person at 3;person at 3;errand 2 in 3 at 1;#");
      if (i == 1) check.due("a fault between", y.city(), -4);
      if (i == 1) y.end(0);
    }
  }

  // "-4: a FAULT (all stays)"
  private static void faultStays() {
    check.stays("a fault", () -> State.busy(CityTest.TOWN), x -> { x.city(); x.city(); });
    AlibiRota x = State.busy(CityTest.TOWN);
    check.due("refused", x.city(), -4);
    check.due("the tape stays", x.count(10), 27);
    check.due("acts stay", x.count(8), 4);
    Check.feed(x, " 0 pace 0 fine 0 ring 2 odds 0;");
    check.due("and can be gone on with", x.city(), 1);
    // A fault behind a whole city: what was read of it is not kept.
    String late = FIRST + "person at 3 to 1;wall 0;person at 2;errand 0 in 1 at 0;#";
    check.stays("a late fault", () -> State.busy(CityTest.TOWN), y -> {
      y.end(0);
      Check.feed(y, late);
      y.city();
      y.end(0);
      Check.feed(y, "city places 3 hours 7 sight");
      y.city();
    });
  }

  // ---- promise 5: "its FAULT, 0 without, 1: its place (NONE without). NONE for another what, and ahead of any (what 1)"
  private static void faulting() {
    AlibiRota x = new AlibiRota();
    check.due("ahead of any, what 0", x.fault(0), 0);
    check.due("ahead of any, what 1", x.fault(1), -1);
    Check.feed(x, "x");
    check.due("no city() yet", x.fault(0), 0);
    x.city();
    check.due("1", x.fault(0), 1);
    check.due("at 0", x.fault(1), 0);
    for (int what : new int[] {-1, 2, 3, Integer.MIN_VALUE, Integer.MAX_VALUE}) check.due("another what", x.fault(what), -1);
    x.end(0);
    check.due("of the latest city()", x.fault(0), 1);
    x.back(0);
    check.due("still", x.fault(0), 1);
    x.city();
    check.due("without", x.fault(0), 0);
    check.due("without", x.fault(1), -1);
    check.due("another what without", x.fault(2), -1);
  }

  public static void main(String[] args) {
    cityNumbers();
    cityFirst();
    cityWords();
    walls();
    homes();
    oaths();
    nobody();
    errands();
    lineWords();
    numbered();
    tokens();
    faultPlaces();
    eighth();
    newObject();
    feeding();
    ending();
    telling();
    faultStays();
    faulting();
    check.close();
  }
}
