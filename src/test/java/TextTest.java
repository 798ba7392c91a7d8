/** Promises 1 to 5 and the text's terms: the tape, lines, faults and their places. */
public final class TextTest {
  private static final Check check = new Check("TextTest");
  private static final String FIRST = "city places 4 hours 3 sight 1 pace 2 fine 7 ring 2 odds 5;";

  private static void faulty(String text, int fault, int place) {
    AlibiRota x = Check.told("city places 9 hours 9 sight 9 pace 9 fine 9 ring 3 odds 9; person at 8;");
    x.swear(0, -1);
    Check.feed(x, text);
    check.due("city of '" + text + "'", x.city(), -4);
    check.due("fault(0) of '" + text + "'", x.fault(0), fault);
    check.due("fault(1) of '" + text + "'", x.fault(1), place);
    check.due("fault(2)", x.fault(2), -1);
    check.due("fault(-1)", x.fault(-1), -1);
    check.due("the city stays", x.count(0), 9);
    check.due("its acts stay", x.count(8), 1);
    check.due("its lines stay", x.count(9), 2);
    check.due("the tape stays", x.count(10), text.length());
  }

  private static void fine(String text, int lines) {
    AlibiRota x = new AlibiRota();
    Check.feed(x, text);
    check.due("city of '" + text + "'", x.city(), lines);
    check.due("fault(0) of '" + text + "'", x.fault(0), 0);
    check.due("fault(1) of '" + text + "'", x.fault(1), -1);
    check.due("the tape is empty", x.count(10), 0);
    check.due("lines", x.count(9), lines);
  }

  private static void tape() {
    AlibiRota x = new AlibiRota();
    check.due("fault ahead of any", x.fault(0), 0);
    check.due("its place", x.fault(1), -1);
    for (int i = 1; i <= 60; i++) check.due("feed " + i, x.feed(0x20202020, 0x20202020, 0x20202020, 0x20202020, 0x20202020), 20 * i);
    check.due("feed at 1,200", x.feed(0, 0, 0, 0, 0), -1);
    check.due("end(1201)", x.end(1201), -1);
    check.due("end(-1)", x.end(-1), -1);
    check.due("end(1181)", x.end(1181), 1181);
    check.due("feed at 1,181", x.feed(0, 0, 0, 0, 0), -1);
    check.due("bytes", x.count(10), 1181);
    check.due("end(1180)", x.end(1180), 1180);
    check.due("feed at 1,180", x.feed(0x20202020, 0x20202020, 0x20202020, 0x20202020, 0x2020203b), 1200);
    check.due("city", x.city(), -4);
    check.due("the sign's place", x.fault(1), 1199);
    check.due("end(1199)", x.end(1199), 1199);
    check.due("blanks alone", x.city(), 0);
    check.due("end(0)", x.end(0), 0);
    check.due("all() without a city", x.all(), -2);
  }

  private static void bytes() {
    AlibiRota x = new AlibiRota();
    // "city" and four bytes of each number, the highest first; a byte above 127 is no token.
    check.due("feed", x.feed(0x63697479, 0x20706C61, 0x63657320, 0x34C32020, 0x20202020), 20);
    check.due("city", x.city(), -4);
    check.due("fault", x.fault(0), 1);
    check.due("place", x.fault(1), 13);
    x.end(13);
    check.due("city", x.city(), -4);
    check.due("at the end", x.fault(1), 13);
  }

  private static void faults() {
    faulty("x", 1, 0);
    faulty(";", 1, 0);
    faulty(" 4;", 1, 1);
    faulty("wall 0;", 1, 0);
    faulty("person at 0;", 1, 0);
    faulty("citys places 4", 1, 0);
    faulty("cityz places 4", 1, 0);
    faulty("xity places 4", 1, 0);
    faulty("citx places 4", 1, 0);
    faulty("cit", 1, 0);
    faulty("city", 1, 4);
    faulty("city  \n", 1, 7);
    faulty("city hours 4", 1, 5);
    faulty("city places x", 1, 12);
    faulty("city places 1 #", 2, 12);
    faulty("city places 11", 2, 12);
    faulty("city places 4 hours 0", 2, 20);
    faulty("city places 4 hours 13", 2, 20);
    faulty("city places 4 hours 12 sight 10", 2, 29);
    faulty("city places 4 hours 12 sight 9 pace 10", 2, 36);
    faulty("city places 4 hours 12 sight 9 pace 9 fine 100", 2, 43);
    faulty("city places 4 hours 12 sight 9 pace 9 fine 99 ring 1", 2, 51);
    faulty("city places 4 hours 12 sight 9 pace 9 fine 99 ring 4", 2, 51);
    faulty("city places 4 hours 12 sight 9 pace 9 fine 99 ring 3 odds 11", 2, 58);
    faulty("city places 99999999999999999999999999999999999999999999999999", 2, 12);
    faulty("city places 4294967300 hours", 2, 12);
    faulty("city\tplaces", 1, 4);
    faulty("City places", 1, 0);
    faulty("city places 4hours 3 sight 1 pace 2 fine 7 ring 2 odds 5", 1, 56);
    faulty(FIRST.substring(0, FIRST.length() - 1) + " wall 0;", 1, 58);
    int n = FIRST.length();
    faulty(FIRST + FIRST, 1, n);
    faulty(FIRST + ";", 1, n);
    faulty(FIRST + "at", 1, n);
    faulty(FIRST + "wall 3;", 2, n + 5);
    faulty(FIRST + "wall;", 1, n + 4);
    faulty(FIRST + "wall 2", 1, n + 6);
    faulty(FIRST + "person at 4", 2, n + 10);
    faulty(FIRST + "person at 3 to 0;", 2, n + 15);
    faulty(FIRST + "person at 3 to 7;", 2, n + 15);
    faulty(FIRST + "person at 3 to;", 1, n + 14);
    faulty(FIRST + "person at 3 in 1;", 1, n + 12);
    faulty(FIRST + "person at 3;person at 0 to 1;", 2, n + 27);
    faulty(FIRST + "errand 0 in 1 at 1;person at 3;", 2, n + 7);
    faulty(FIRST + "person at 3;errand 1 in 0 at 0;", 2, n + 19);
    faulty(FIRST + "person at 3;errand 0 in 4 at 0;", 2, n + 24);
    faulty(FIRST + "person at 3;errand 0 in 3 at 3;", 2, n + 29);
    faulty(FIRST + "person at 3;errand 0 at 3 in 1;", 1, n + 21);
    StringBuilder seven = new StringBuilder(FIRST);
    for (int i = 0; i < 7; i++) seven.append("person at 0;");
    faulty(seven + " person", 3, n + 85);
    faulty(seven + " person at 9", 3, n + 85);
    faulty(seven + " persons", 1, n + 85);
    fine(seven.toString(), 8);
  }

  private static void texts() {
    fine("", 0);
    fine(" \n ", 0);
    fine(FIRST, 1);
    fine("\n" + FIRST.replace(" ", "\n \n") + " ", 1);
    fine("city places2hours1sight0pace0fine0ring2odds0;wall0;", 2);
    fine("city places 0010 hours 012 sight 9 pace 9 fine 99 ring 3 odds 10;wall 8;wall 8;person at 9 to 6;", 4);
    fine(FIRST + "person at 3 to 1;errand 0 in 3 at 2;errand 0 in 1 at 2;person at 0 to 0;", 5);
  }

  private static void replaces() {
    AlibiRota x = Check.told(FIRST + "person at 1 to 6;person at 0 to 0;errand 1 in 2 at 1;errand 1 in 3 at 1;");
    check.due("a stranger is nobody", x.swears(0), -1);
    check.due("swears", x.swears(1), 0);
    check.due("the later errand", x.at(1, 1), 3);
    check.due("at home", x.at(1, 0), 0);
    x.swear(0, 1);
    Check.feed(x, "x");
    check.due("a fault", x.city(), -4);
    x.end(0);
    Check.feed(x, FIRST + "person at 2;");
    check.due("another", x.city(), 2);
    check.due("no fault any more", x.fault(0), 0);
    check.due("no place any more", x.fault(1), -1);
    check.due("persons", x.count(7), 1);
    check.due("acts", x.count(8), 0);
    check.due("undo", x.undo(), -5);
    check.due("none", x.city(), 0);
    check.due("no city", x.undo(), -2);
    for (int what = 0; what < 11; what++) check.due("count " + what, x.count(what), 0);
  }

  public static void main(String[] args) {
    tape();
    bytes();
    faults();
    texts();
    replaces();
    check.close();
  }
}
