import java.util.Random;

/** Holds random runs of calls on the class against the plain Model of the document. */
public final class ModelTest {
  private static int wrong = 0;
  private static int asked = 0;
  private AlibiRota x = new AlibiRota();
  private Model m = new Model();
  private final Random r;
  private final StringBuilder story = new StringBuilder();
  private int calls = 0;

  private ModelTest(long seed) { r = new Random(seed); }

  private void due(String call, long got, long want) {
    asked++;
    calls++;
    story.append(call).append(" = ").append(got).append('\n');
    if (got == want) return;
    wrong++;
    if (wrong <= 3) System.out.println("--- a run:\n" + story + "due was " + want);
  }

  private void feedText(String text) {
    byte[] b = new byte[(text.length() + 19) / 20 * 20];
    for (int i = 0; i < b.length; i++) b[i] = (byte) (i < text.length() ? text.charAt(i) : ' ');
    due("end(0)", x.end(0), m.end(0));
    for (int i = 0; i < b.length; i += 20) {
      int[] v = new int[5];
      for (int k = 0; k < 20; k++) v[k / 4] = v[k / 4] << 8 | b[i + k] & 255;
      due("feed", x.feed(v[0], v[1], v[2], v[3], v[4]), m.feed(v));
    }
    int cut = r.nextInt(12) == 0 ? r.nextInt(text.length() + 1) : text.length();
    story.append("text: ").append(text).append('\n');
    due("end(" + cut + ")", x.end(cut), m.end(cut));
    due("city()", x.city(), m.city());
    due("fault(0)", x.fault(0), m.fault(0));
    due("fault(1)", x.fault(1), m.fault(1));
  }

  private int places = 2;
  private int hours = 1;
  private int people = 0;

  private String num(int low, int high) {
    int v = r.nextInt(150) == 0 ? high + 1 + r.nextInt(3) : low + r.nextInt(Math.max(1, high - low + 1));
    return (r.nextInt(40) == 0 ? "0" : "") + v;
  }

  private String randomText() {
    places = 2 + r.nextInt(r.nextBoolean() ? 4 : 9);
    hours = 1 + r.nextInt(r.nextBoolean() ? 5 : 12);
    people = 0;
    int most = r.nextInt(60) == 0 ? 8 : r.nextInt(3) == 0 ? r.nextInt(8) : 3 + r.nextInt(3);
    StringBuilder s = new StringBuilder("city places " + places + " hours " + hours + " sight " + num(0, 3)
        + " pace " + num(0, 3) + " fine " + num(0, 99) + " ring " + num(2, 3) + " odds " + num(0, 10) + ";");
    int lines = r.nextInt(most + 16) + most;
    for (int i = 0; i < lines; i++) {
      int k = r.nextInt(10);
      if (k == 0) s.append(" wall " + num(0, places - 2) + " ;");
      else if (people < most && (k < 5 || people == 0)) {
        s.append("\nperson at " + num(0, places - 1));
        int to = r.nextInt(7) % Math.max(1, most);
        if (r.nextInt(5) > 0 && (to != people || r.nextInt(40) == 0)) s.append(" to " + to);
        s.append(";");
        people++;
      } else if (people > 0) {
        s.append(" errand " + num(0, people - 1) + " in " + num(0, places - 1) + " at " + num(0, hours - 1) + ";");
      }
    }
    if (r.nextInt(5) == 0) spoil(s);
    return s.toString();
  }

  private void spoil(StringBuilder s) {
    String[] bits = {"city", "person", ";", "7", "x", "#", "\t", " ", "", "\n", "at", "99999999999999999999", "\u00e9", "wall 0;", "to 1"};
    for (int i = r.nextInt(2); i >= 0; i--) {
      int at = r.nextInt(s.length() + 1);
      s.replace(at, Math.min(s.length(), at + r.nextInt(4)), bits[r.nextInt(bits.length)]);
    }
  }

  private int p() { return r.nextInt(30) == 0 ? r.nextInt(10) - 1 : r.nextInt(Math.max(1, people)); }
  private int h() { return r.nextInt(30) == 0 ? r.nextInt(15) - 1 : r.nextInt(hours); }
  private int l() { return r.nextInt(30) == 0 ? r.nextInt(13) - 1 : r.nextInt(places); }
  private int slot() { return r.nextInt(30) == 0 ? r.nextInt(7) - 1 : r.nextInt(4); }

  private void writeAll(int s, int... v) {
    for (int i = 0; i < v.length; i++) {
      long put = v[i] + (r.nextInt(60) == 0 ? 256L : 0) + (r.nextInt(60) == 0 ? 1L << 32 : 0);
      due("write(" + s + "," + i + "," + put + ")", x.write(s, i, put), m.write(s, i, put));
    }
  }

  private void rowOf(int each) {
    int s = slot();
    int w = r.nextInt(4);
    int n = each * r.nextInt(4) + (r.nextInt(30) == 0 ? 1 : 0);
    due("row(" + s + "," + w + "," + n + ")", x.row(s, w, n), m.row(s, w, n));
    int kind = r.nextInt(2);
    int[] v = new int[n];
    for (int i = 0; i < n; i++) {
      if (each == 2) v[i] = i % 2 == 0 ? h() : l();
      else if (kind == 0) v[i] = i % 3 == 2 ? h() : p();
      else v[i] = i % 3 == 0 ? p() : i % 3 == 1 ? h() : r.nextInt(40) == 0 ? 2 : r.nextInt(2);
    }
    writeAll(s, v);
    slotCalls(s);
  }

  private void slotCalls(int s) {
    int p = p();
    due("who(" + s + ")", x.who(s), m.who(s));
    due("ask(" + s + ")", x.ask(s), m.ask(s));
    due("leaves(" + s + ")", x.leaves(s), m.leaves(s));
    due("lies(" + s + ")", x.lies(s), m.lies(s));
    due("liars(" + s + ")", x.liars(s), m.liars(s));
    due("closed(" + s + "," + p + ")", x.closed(s, p), m.closed(s, p));
    due("worn(" + s + ")", x.worn(s), m.worn(s));
    due("wore(" + s + "," + p + ")", x.wore(s, p), m.wore(s, p));
    due("surely(" + s + "," + p + ")", x.surely(s, p), m.surely(s, p));
  }

  private void change() {
    int p = p();
    int h = h();
    int l = l();
    int k = r.nextInt(4) - (r.nextInt(20) == 0 ? 1 : 0);
    switch (r.nextInt(9)) {
      case 0: case 1: {
        int o = r.nextInt(5) == 0 ? -1 : p();
        due("swear(" + p + "," + o + ")", x.swear(p, o), m.swear(p, o));
        break;
      }
      case 2: case 3: due("move(" + p + "," + h + "," + l + ")", x.move(p, h, l), m.move(p, h, l)); break;
      case 4: due("undo()", x.undo(), m.undo()); break;
      case 5:
        if (r.nextInt(3) == 0) due("anew()", x.anew(), m.anew());
        int w = r.nextInt(6) - 1;
        int n = r.nextInt(12) - 1;
        due("tell(" + w + "," + n + ")", x.tell(w, n), m.tell(w, n));
        break;
      case 6: due("image(" + k + ")", x.image(k), m.image(k)); break;
      case 7: due("back(" + k + ")", x.back(k), m.back(k)); break;
      default:
        for (int i = r.nextInt(45) * r.nextInt(2) * r.nextInt(2); i > 0; i--) due("move", x.move(p, h, i % places), m.move(p, h, i % places));
    }
    for (int i = -1; i < 13; i++) due("count(" + i + ")", x.count(i), m.count(i));
  }

  private void lookCalls() {
    int p = p();
    int o = p();
    int h = h();
    int l = l();
    due("at(" + p + "," + h + ")", x.at(p, h), m.at(p, h));
    due("sees(" + p + "," + o + "," + h + ")", x.sees(p, o, h), m.sees(p, o, h));
    due("sight(" + p + "," + h + ")", x.sight(p, h), m.sight(p, h));
    due("swears(" + p + ")", x.swears(p), m.swears(p));
    due("sworn(" + p + ")", x.sworn(p), m.sworn(p));
    due("gaps(" + p + ")", x.gaps(p), m.gaps(p));
    due("alone(" + h + ")", x.alone(h), m.alone(h));
    due("all()", x.all(), m.all());
    due("longest(" + p + ")", x.longest(p), m.longest(p));
    due("fine(" + p + ")", x.fine(p), m.fine(p));
    due("worst()", x.worst(), m.worst());
    due("unsworn()", x.unsworn(), m.unsworn());
    due("rings()", x.rings(), m.rings());
    due("ring(" + p + ")", x.ring(p), m.ring(p));
    due("chain(" + p + ")", x.chain(p), m.chain(p));
    due("often(" + p + "," + o + ")", x.often(p, o), m.often(p, o));
    due("friend(" + p + ")", x.friend(p), m.friend(p));
    due("witness(" + l + "," + h + ")", x.witness(l, h), m.witness(l, h));
    due("dark(" + h + ")", x.dark(h), m.dark(h));
    due("crowd(" + h + ")", x.crowd(h), m.crowd(h));
    due("busiest()", x.busiest(), m.busiest());
    due("mutual()", x.mutual(), m.mutual());
  }

  private void thinkCalls() {
    int p = p();
    due("best()", x.best(), m.best());
    due("rota(" + p + ")", x.rota(p), m.rota(p));
    due("ways()", x.ways(), m.ways());
    due("fair()", x.fair(), m.fair());
    due("clean()", x.clean(), m.clean());
    due("trade()", x.trade(), m.trade());
    due("envy()", x.envy(), m.envy());
    due("homebody()", x.homebody(), m.homebody());
    due("extra()", x.extra(), m.extra());
    due("safe()", x.safe(), m.safe());
  }

  private void deedCalls() {
    int p = p();
    int o = p();
    int h = h();
    int l = l();
    if (m.smallDays()) {
      due("tied(" + p + "," + o + ")", x.tied(p, o), m.tied(p, o));
      due("ties(" + p + "," + o + "," + h + ")", x.ties(p, o, h), m.ties(p, o, h));
      due("steps(" + p + "," + o + ")", x.steps(p, o), m.steps(p, o));
    }
    due("deeds(" + p + "," + l + ")", x.deeds(p, l), m.deeds(p, l));
    due("can(" + l + "," + h + ")", x.can(l, h), m.can(l, h));
    due("guard(" + p + "," + l + ")", x.guard(p, l), m.guard(p, l));
    due("guards(" + p + ")", x.guards(p), m.guards(p));
    due("guarded(" + p + ")", x.guarded(p), m.guarded(p));
    int to = h();
    due("law(" + h + "," + to + ")", x.law(h, to), m.law(h, to));
  }

  private void fogCalls() {
    int p = p();
    int w = r.nextInt(5) - 1;
    int seed = r.nextInt(10) == 0 ? 2000000000 + r.nextInt(3) - 1 : r.nextInt(10) == 0 ? -1 : r.nextInt(2000000001);
    int n = r.nextInt(23) - 1;
    due("chance(" + p + ",0)", x.chance(p, 0), m.chance(p, 0));
    due("chance(" + p + "," + w + ")", x.chance(p, w), m.chance(p, w));
    due("likely(" + p + ")", x.likely(p), m.likely(p));
    due("drawn(" + seed + "," + w + ")", x.drawn(seed, w), m.drawn(seed, w));
    due("luck(" + seed + "," + n + "," + p + ")", x.luck(seed, n, p), m.luck(seed, n, p));
  }

  private void rowCalls() {
    int s = slot();
    int t = slot();
    int i = r.nextInt(9) - 1;
    int k = r.nextInt(9) - 1;
    int n = r.nextInt(7) - 1;
    due("paste(" + s + "," + i + "," + t + "," + k + "," + n + ")", x.paste(s, i, t, k, n), m.paste(s, i, t, k, n));
    if (r.nextInt(4) == 0) {
      int w = r.nextInt(6) - 1;
      int z = r.nextInt(3) == 0 ? 58 + r.nextInt(5) : r.nextInt(8) - 1;
      due("row(" + s + "," + w + "," + z + ")", x.row(s, w, z), m.row(s, w, z));
    }
    slotCalls(t);
  }

  private void run() {
    // An object is good for 512 calls, and no step below takes more than 150.
    for (int i = 0; i < 30 && wrong == 0 && calls < 360; i++) {
      switch (r.nextInt(12)) {
        case 0: feedText(r.nextInt(30) == 0 ? " \n" : randomText()); break;
        case 1: case 2: change(); break;
        case 3: case 4: lookCalls(); break;
        case 5: thinkCalls(); break;
        case 6: case 7: deedCalls(); break;
        case 8: fogCalls(); break;
        case 9: rowOf(2 + r.nextInt(2)); break;
        case 10: rowCalls(); break;
        default: change(); change(); lookCalls();
      }
    }
  }

  public static void main(String[] args) {
    int runs = args.length > 0 ? Integer.parseInt(args[0]) : 2500;
    int from = args.length > 1 ? Integer.parseInt(args[1]) : 0;
    for (int i = 0; i < runs && wrong == 0; i++) {
      ModelTest t = new ModelTest(from + i);
      if (i % 10 != 0) t.feedText(t.randomText());
      t.run();
    }
    System.out.println("ModelTest: " + (asked - wrong) + " passed, " + wrong + " failed");
    if (wrong != 0) System.exit(1);
  }
}
