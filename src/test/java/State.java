/** All that later calls can show of an object, as a text. Reading it uses the object up. */
final class State {
  /** By its homes and pace, who([0, v]) tells each place v from 0 to 6 from all others. */
  private static final String READER = "city places 10 hours 1 sight 0 pace 4 fine 0 ring 2 odds 0;"
      + "person at 0;person at 1;person at 2;person at 5;person at 6;person at 7;person at 8;";
  private static final int SPARE = 3;

  private final AlibiRota x;
  private final StringBuilder text = new StringBuilder();

  private State(AlibiRota x) { this.x = x; }

  private void add(String what, long... answers) {
    text.append(what);
    for (long v : answers) text.append(' ').append(v);
    text.append('\n');
  }

  private void addCounts() {
    for (int what = 0; what < 12; what++) add("count " + what, x.count(what));
    add("fault", x.fault(0), x.fault(1));
  }

  private void addWhereabouts() {
    for (int p = 0; p < x.count(7); p++) {
      long[] day = new long[x.count(1)];
      for (int h = 0; h < day.length; h++) day[h] = x.at(p, h);
      add("day of " + p, day);
      add("oath of " + p, x.swears(p));
    }
  }

  private void addAnswers() {
    int people = x.count(7);
    for (int p = 0; p < people; p++) add("person " + p, x.gaps(p), x.rota(p), x.likely(p), x.tied(p, (p + 1) % people));
    add("all", x.all(), x.worst(), x.best(), x.ways(), x.fair(), x.clean(), x.trade(), x.envy(), x.homebody(), x.extra(), x.safe());
    for (int s = 0; s < 4; s++) add("slot " + s, x.who(s), x.lies(s), x.worn(s));
  }

  private void addActs() {
    for (int i = 0; i <= 41; i++) {
      int left = x.undo();
      add("undo", left, x.all());
      if (left < 0) break;
    }
    addWhereabouts();
  }

  private void addImages() {
    for (int k = 0; k < 3; k++) add("image " + k, x.back(k), x.count(8), x.count(2), x.all(), x.anew(), x.all());
  }

  private void addTape() {
    add("tape", x.city(), x.fault(0), x.fault(1), x.count(0), x.count(1), x.count(7), x.count(9));
  }

  private int widthOf(int slot) {
    for (int w = 0; w < 4; w++) {
      x.row(SPARE, w, 2);
      x.write(SPARE, 0, 0);
      if (x.paste(slot, 0, SPARE, 0, 0) == 0) return w;
    }
    return -1;
  }

  private void addRows() {
    x.end(0);
    Check.feed(x, READER);
    x.city();
    for (int s = 0; s < SPARE; s++) {
      add("width of " + s, widthOf(s));
      for (int i = 0; x.paste(s, i, SPARE, 1, 1) == 0; i++) add("number " + i, x.who(SPARE));
    }
  }

  static String of(AlibiRota x) {
    State s = new State(x);
    s.addCounts();
    s.addWhereabouts();
    s.addAnswers();
    s.addActs();
    s.addImages();
    s.addTape();
    s.addRows();
    return s.text.toString();
  }

  /** An object of which most can change: acts, images, rows, and bytes on the tape. */
  static AlibiRota busy(String city) {
    AlibiRota x = Check.told(city);
    x.image(0);
    x.swear(0, 1);
    x.move(0, 0, 1);
    x.swear(1, -1);
    x.image(1);
    x.move(0, 0, 0);
    x.row(0, 0, 2);
    x.write(0, 1, 1);
    x.row(1, 3, 3);
    x.write(1, 1, 1);
    x.row(2, 2, 0);
    Check.feed(x, "city places 3 hours 7 sight");
    x.city();
    return x;
  }
}
