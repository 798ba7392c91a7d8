import java.math.BigInteger;
import java.util.ArrayList;
import java.util.Arrays;
import java.util.HashMap;
import java.util.HashSet;
import java.util.List;
import java.util.Map;
import java.util.Set;
import java.util.TreeMap;
import java.util.regex.Matcher;
import java.util.regex.Pattern;

/**
 * The document once more, as plainly and slowly as can be, to hold the class against:
 * everything is asked anew from places and oaths, and all rotas and days are tried.
 */
final class Model {
  static final int NONE = -1;

  /** A city and its acts: acts are kept as told, and played again from the text's state. */
  static final class Town {
    Map<String, Integer> n = new HashMap<>();
    int lines = 0;
    Set<Integer> walls = new HashSet<>();
    List<Integer> homes = new ArrayList<>();
    List<Integer> oaths = new ArrayList<>();
    List<Map<Integer, Integer>> errands = new ArrayList<>();
    List<int[]> acts = new ArrayList<>();

    Town copy() {
      Town t = new Town();
      t.n.putAll(n);
      t.lines = lines;
      t.walls.addAll(walls);
      t.homes.addAll(homes);
      t.oaths.addAll(oaths);
      for (Map<Integer, Integer> e : errands) t.errands.add(new TreeMap<>(e));
      for (int[] a : acts) t.acts.add(a.clone());
      return t;
    }
  }

  static final class Token {
    final char kind;
    final String text;
    final int place;
    Token(char kind, String text, int place) { this.kind = kind; this.text = text; this.place = place; }
  }

  private StringBuilder tape = new StringBuilder();
  private Town town = new Town();
  private final Town[] images = new Town[3];
  private final List<List<Long>> rows = new ArrayList<>(Arrays.asList(null, null, null, null));
  private final int[] widths = new int[4];
  private int fault = 0;
  private int faultPlace = NONE;

  // ---- the text

  int feed(int... five) {
    if (tape.length() + 20 > 1200) return NONE;
    for (int v : five) for (int s = 3; s >= 0; s--) tape.append((char) (v >>> (8 * s) & 255));
    return tape.length();
  }

  int end(int n) {
    if (n < 0 || n > tape.length()) return NONE;
    tape.setLength(n);
    return n;
  }

  private static List<Token> tokens(String text) {
    List<Token> all = new ArrayList<>();
    Matcher m = Pattern.compile("([a-z]+)|([0-9]+)|(;)|([ \\n]+)|(.)", Pattern.DOTALL).matcher(text);
    while (m.find()) {
      char kind = m.group(1) != null ? 'w' : m.group(2) != null ? 'n' : m.group(3) != null ? ';'
          : m.group(4) != null ? ' ' : '?';
      if (kind != ' ') all.add(new Token(kind, m.group(), m.start()));
    }
    all.add(new Token('e', "", text.length()));
    return all;
  }

  private boolean bad(int which, Token t) {
    fault = which;
    faultPlace = t.place;
    return false;
  }

  int city() {
    fault = 0;
    faultPlace = NONE;
    Town t = new Town();
    if (!parse(t, tokens(tape.toString()))) return -4;
    for (int p = 0; p < t.oaths.size(); p++) if (t.oaths.get(p) >= t.oaths.size()) t.oaths.set(p, NONE);
    town = t;
    tape.setLength(0);
    return t.lines;
  }

  private boolean parse(Town t, List<Token> all) {
    int i = 0;
    while (all.get(i).kind != 'e') {
      String first = all.get(i).text;
      boolean known = t.lines == 0 ? first.equals("city") : first.equals("wall") || first.equals("person") || first.equals("errand");
      if (!known) return bad(1, all.get(i));
      if (first.equals("person") && t.homes.size() == 7) return bad(3, all.get(i));
      String form = first.equals("city") ? "city places # hours # sight # pace # fine # ring # odds # ;"
          : first.equals("wall") ? "wall # ;" : first.equals("errand") ? "errand # in # at # ;"
          : i + 3 < all.size() && all.get(i + 3).text.equals("to") ? "person at # to # ;" : "person at # ;";
      List<Integer> got = new ArrayList<>();
      int people = t.homes.size();
      for (String want : form.split(" ")) {
        Token x = all.get(i);
        if (want.equals("#")) {
          if (x.kind != 'n') return bad(1, x);
          BigInteger v = new BigInteger(x.text);
          int[] b = bounds(t, first, got.size());
          boolean in = v.compareTo(BigInteger.valueOf(b[0])) >= 0 && v.compareTo(BigInteger.valueOf(b[1])) <= 0;
          if (!in || first.equals("person") && got.size() == 1 && v.intValue() == people) return bad(2, x);
          got.add(v.intValue());
        } else if (!x.text.equals(want)) {
          return bad(1, x);
        }
        i++;
      }
      told(t, first, got);
      t.lines++;
    }
    return true;
  }

  private static int[] bounds(Town t, String first, int k) {
    int lastPlace = t.n.getOrDefault("places", 0) - 1;
    int lastHour = t.n.getOrDefault("hours", 0) - 1;
    switch (first) {
      case "city": return new int[][] {{2, 10}, {1, 12}, {0, 9}, {0, 9}, {0, 99}, {2, 3}, {0, 10}}[k];
      case "wall": return new int[] {0, lastPlace - 1};
      case "person": return k == 0 ? new int[] {0, lastPlace} : new int[] {0, 6};
      default: return new int[][] {{0, t.homes.size() - 1}, {0, lastPlace}, {0, lastHour}}[k];
    }
  }

  private static void told(Town t, String first, List<Integer> got) {
    switch (first) {
      case "city":
        String[] names = {"places", "hours", "sight", "pace", "fine", "ring", "odds"};
        for (int k = 0; k < 7; k++) t.n.put(names[k], got.get(k));
        break;
      case "wall": t.walls.add(got.get(0)); break;
      case "person":
        t.homes.add(got.get(0));
        t.oaths.add(got.size() > 1 ? got.get(1) : NONE);
        t.errands.add(new TreeMap<>());
        break;
      default: t.errands.get(got.get(0)).put(got.get(2), got.get(1));
    }
  }

  int fault(int what) { return what == 0 ? fault : what == 1 ? faultPlace : NONE; }

  // ---- the words of the terms

  private int num(String name) { return town.n.getOrDefault(name, 0); }
  private int hours() { return num("hours"); }
  private int people() { return town.homes.size(); }
  private boolean none() { return town.lines == 0; }
  private boolean noP(long p) { return p < 0 || p >= people(); }
  private boolean noH(long h) { return h < 0 || h >= hours(); }
  private boolean noL(long l) { return l < 0 || l >= num("places"); }

  private Map<Integer, Integer> errandsNow(int p) {
    Map<Integer, Integer> e = new TreeMap<>(town.errands.get(p));
    for (int[] a : town.acts) if (a[0] == 1 && a[1] == p) e.put(a[2], a[3]);
    return e;
  }

  private int place(int p, int h) { return errandsNow(p).getOrDefault(h, town.homes.get(p)); }

  private int[] oathsNow() {
    int[] o = new int[people()];
    for (int p = 0; p < o.length; p++) o[p] = town.oaths.get(p);
    for (int[] a : town.acts) if (a[0] == 0) o[a[1]] = a[2];
    return o;
  }

  private int[][] placesNow() {
    int[][] all = new int[people()][hours()];
    for (int p = 0; p < people(); p++) for (int h = 0; h < hours(); h++) all[p][h] = place(p, h);
    return all;
  }

  private boolean inView(int a, int b, boolean fog) {
    if (a == b) return true;
    if (fog || Math.abs(a - b) > num("sight")) return false;
    for (int x = Math.min(a, b); x < Math.max(a, b); x++) if (town.walls.contains(x)) return false;
    return true;
  }

  /** gap[person][hour] by oaths given as pairs of who and to whom. */
  private boolean[][] gapsBy(int[][] places, List<int[]> oaths, int fog) {
    boolean[][] g = new boolean[people()][hours()];
    for (boolean[] r : g) Arrays.fill(r, true);
    for (int[] o : oaths)
      for (int h = 0; h < hours(); h++)
        if (inView(places[o[0]][h], places[o[1]][h], (fog >> h & 1) == 1)) g[o[1]][h] = false;
    return g;
  }

  private static List<int[]> pairs(int[] oaths) {
    List<int[]> l = new ArrayList<>();
    for (int p = 0; p < oaths.length; p++) if (oaths[p] != NONE) l.add(new int[] {p, oaths[p]});
    return l;
  }

  private boolean[][] gapsNow() { return gapsBy(placesNow(), pairs(oathsNow()), 0); }

  private static int total(boolean[][] g) {
    int t = 0;
    for (boolean[] r : g) t += ones(r);
    return t;
  }

  private static int ones(boolean[] r) {
    int t = 0;
    for (boolean b : r) if (b) t++;
    return t;
  }

  private static int bits(boolean[] r) {
    int v = 0;
    for (int i = 0; i < r.length; i++) if (r[i]) v |= 1 << i;
    return v;
  }

  // ---- promises 6 to 20

  int at(int p, int h) { return noP(p) || noH(h) ? -2 : place(p, h); }

  int sees(int p, int o, int h) {
    if (noP(p) || noP(o) || noH(h)) return -2;
    return inView(place(p, h), place(o, h), false) ? 1 : 0;
  }

  int sight(int p, int h) {
    if (noP(p) || noH(h)) return -2;
    boolean[] r = new boolean[people()];
    for (int o = 0; o < people(); o++) r[o] = o != p && sees(p, o, h) == 1;
    return bits(r);
  }

  int swears(int p) { return noP(p) ? -2 : oathsNow()[p]; }

  int sworn(int p) {
    if (noP(p)) return -2;
    boolean[] r = new boolean[people()];
    for (int o = 0; o < people(); o++) r[o] = oathsNow()[o] == p;
    return bits(r);
  }

  int gaps(int p) { return noP(p) ? -2 : bits(gapsNow()[p]); }

  int alone(int h) {
    if (none() || noH(h)) return -2;
    boolean[][] g = gapsNow();
    boolean[] r = new boolean[people()];
    for (int o = 0; o < people(); o++) r[o] = g[o][h];
    return bits(r);
  }

  int all() { return none() ? -2 : total(gapsNow()); }

  private List<Integer> runs(int p) {
    List<Integer> l = new ArrayList<>();
    StringBuilder s = new StringBuilder();
    for (boolean b : gapsNow()[p]) s.append(b ? 'x' : '.');
    for (String part : s.toString().split("\\.+")) l.add(part.length());
    return l;
  }

  int longest(int p) {
    if (noP(p)) return -2;
    int m = 0;
    for (int r : runs(p)) m = Math.max(m, r);
    return m;
  }

  int fine(int p) {
    if (noP(p)) return -2;
    int f = 0;
    for (int r : runs(p)) f += num("fine") * r * (r + 1) / 2;
    return f;
  }

  int worst() {
    if (none()) return -2;
    int w = NONE;
    for (int p = people() - 1; p >= 0; p--) if (fine(p) > 0 && (w == NONE || fine(p) >= fine(w))) w = p;
    return w;
  }

  int unsworn() {
    if (none()) return -2;
    boolean[] r = new boolean[people()];
    for (int o = 0; o < people(); o++) r[o] = sworn(o) == 0;
    return bits(r);
  }

  private static List<Integer> walk(int[] o, int p) {
    List<Integer> l = new ArrayList<>();
    int x = p;
    while (x != NONE && !l.contains(x)) {
      l.add(x);
      x = o[x];
    }
    if (x == p) l.add(p);
    return l;
  }

  int rings() {
    if (none()) return -2;
    Set<Integer> s = new HashSet<>();
    for (int p = 0; p < people(); p++) if (ring(p) != 0) s.add(ring(p));
    return s.size();
  }

  int ring(int p) {
    if (noP(p)) return -2;
    List<Integer> w = walk(oathsNow(), p);
    if (w.size() < 2 || w.get(w.size() - 1) != p) return 0;
    int v = 0;
    for (int x : w) v |= 1 << x;
    return v;
  }

  int chain(int p) { return noP(p) ? -2 : new HashSet<>(walk(oathsNow(), p)).size(); }

  // ---- rotas

  private List<int[]> allRotas() {
    List<int[]> l = new ArrayList<>();
    if (people() > 0) grow(l, new int[people()], 0);
    return l;
  }

  private void grow(List<int[]> l, int[] row, int p) {
    if (p == row.length) {
      for (int x = 0; x < row.length; x++) if (walk(row, x).size() - 1 < num("ring")) return;
      l.add(row.clone());
      return;
    }
    for (int o = 0; o < row.length; o++) {
      boolean used = o == p;
      for (int x = 0; x < p; x++) used |= row[x] == o;
      if (used) continue;
      row[p] = o;
      grow(l, row, p + 1);
    }
  }

  private List<boolean[][]> gapsOf(List<int[]> rotas) {
    int[][] places = placesNow();
    List<boolean[][]> l = new ArrayList<>();
    for (int[] r : rotas) l.add(gapsBy(places, pairs(r), 0));
    return l;
  }

  private int leastTotal(List<boolean[][]> g) {
    int m = Integer.MAX_VALUE;
    for (boolean[][] x : g) m = Math.min(m, total(x));
    return g.isEmpty() ? NONE : m;
  }

  int best() { return none() ? -2 : leastTotal(gapsOf(allRotas())); }

  int rota(int p) {
    if (noP(p)) return -2;
    List<int[]> r = allRotas();
    List<boolean[][]> g = gapsOf(r);
    for (int i = 0; i < r.size(); i++) if (total(g.get(i)) == leastTotal(g)) return r.get(i)[p];
    return NONE;
  }

  int ways() {
    if (none()) return -2;
    List<boolean[][]> g = gapsOf(allRotas());
    int least = leastTotal(g);
    int n = 0;
    for (boolean[][] x : g) if (total(x) == least) n++;
    return n;
  }

  int fair() {
    if (none()) return -2;
    int m = NONE;
    for (boolean[][] x : gapsOf(allRotas())) {
      int w = 0;
      for (boolean[] y : x) w = Math.max(w, ones(y));
      if (m == NONE || w < m) m = w;
    }
    return m;
  }

  int clean() {
    if (none()) return -2;
    int n = 0;
    for (boolean[][] x : gapsOf(allRotas())) if (total(x) == 0) n++;
    return n;
  }

  // ---- promises 26 to 36

  int trade() {
    if (none()) return -2;
    int least = all();
    int found = NONE;
    for (int a = 0; a < people(); a++) for (int b = a + 1; b < people(); b++) {
      int[] o = oathsNow();
      int x = o[a];
      o[a] = o[b];
      o[b] = x;
      if (o[a] == a || o[b] == b) continue;
      int t = total(gapsBy(placesNow(), pairs(o), 0));
      if (t < least) {
        least = t;
        found = 10 * a + b;
      }
    }
    return found;
  }

  int envy() {
    if (none()) return -2;
    int n = 0;
    int[] o = oathsNow();
    for (int a = 0; a < people(); a++) for (int b = a + 1; b < people(); b++) {
      if (o[a] == NONE || o[b] == NONE || o[a] == b || o[b] == a) continue;
      if (often(a, o[b]) > often(a, o[a]) && often(b, o[a]) > often(b, o[b])) n++;
    }
    return n;
  }

  int often(int p, int o) {
    if (noP(p) || noP(o) || p == o) return -2;
    int n = 0;
    for (int h = 0; h < hours(); h++) n += sees(p, o, h);
    return n;
  }

  int friend(int p) {
    if (noP(p)) return -2;
    int f = NONE;
    for (int o = people() - 1; o >= 0; o--) if (o != p && (f == NONE || often(p, o) >= often(p, f))) f = o;
    return f;
  }

  int witness(int l, int h) {
    if (noL(l) || noH(h)) return -2;
    boolean[] r = new boolean[people()];
    for (int p = 0; p < people(); p++) r[p] = inView(place(p, h), l, false);
    return bits(r);
  }

  int dark(int h) {
    if (noH(h)) return -2;
    boolean[] r = new boolean[num("places")];
    for (int l = 0; l < r.length; l++) r[l] = witness(l, h) == 0;
    return bits(r);
  }

  int crowd(int h) {
    if (noH(h)) return -2;
    if (people() == 0) return NONE;
    int[] n = new int[num("places")];
    for (int p = 0; p < people(); p++) n[place(p, h)]++;
    int b = 0;
    for (int l = 0; l < n.length; l++) if (n[l] > n[b]) b = l;
    return b;
  }

  int busiest() {
    if (none()) return -2;
    int b = NONE;
    for (int h = hours() - 1; h >= 0; h--) {
      int n = Integer.bitCount(alone(h));
      if (n > 0 && (b == NONE || n >= Integer.bitCount(alone(b)))) b = h;
    }
    return b;
  }

  int mutual() {
    if (none()) return -2;
    int n = 0;
    int[] o = oathsNow();
    for (int a = 0; a < people(); a++) for (int b = 0; b < a; b++) if (o[a] == b && o[b] == a) n++;
    return n;
  }

  int homebody() {
    if (none()) return -2;
    int least = all();
    int found = NONE;
    for (int p = 0; p < people(); p++) {
      int[][] l = placesNow();
      Arrays.fill(l[p], town.homes.get(p));
      int t = total(gapsBy(l, pairs(oathsNow()), 0));
      if (t < least) {
        least = t;
        found = p;
      }
    }
    return found;
  }

  private int totalWith(int a, int b) {
    List<int[]> l = pairs(oathsNow());
    l.add(new int[] {a, b});
    return total(gapsBy(placesNow(), l, 0));
  }

  int extra() {
    if (none()) return -2;
    int least = all();
    int found = NONE;
    for (int a = 0; a < people(); a++) for (int b = 0; b < people(); b++) {
      if (a != b && totalWith(a, b) < least) {
        least = totalWith(a, b);
        found = 10 * a + b;
      }
    }
    return found;
  }

  // ---- days: all are tried, so only small cities are asked

  boolean smallDays() { return Math.pow(num("places"), hours()) <= 20000; }

  private List<int[]> allDays(int p) {
    List<int[]> l = new ArrayList<>();
    live(l, new int[hours()], 0, errandsNow(p));
    return l;
  }

  private void live(List<int[]> l, int[] d, int h, Map<Integer, Integer> errands) {
    if (h == d.length) {
      l.add(d.clone());
      return;
    }
    for (int x = 0; x < num("places"); x++) {
      if (errands.containsKey(h) && errands.get(h) != x) continue;
      if (h > 0 && Math.abs(x - d[h - 1]) > num("pace")) continue;
      d[h] = x;
      live(l, d, h + 1, errands);
    }
  }

  /** The days of most hours, in the order of their rows. */
  private List<int[]> bestDays(int p, int o, int[] most) {
    List<int[]> l = new ArrayList<>();
    int[][] places = placesNow();
    most[0] = NONE;
    for (int[] d : allDays(p)) {
      int n = 0;
      for (int h = 0; h < d.length; h++) if (inView(d[h], places[o][h], false)) n++;
      if (n > most[0]) l.clear();
      most[0] = Math.max(most[0], n);
      if (n == most[0]) l.add(d);
    }
    return l;
  }

  int tied(int p, int o) {
    if (noP(p) || noP(o) || p == o) return -2;
    int[] most = new int[1];
    bestDays(p, o, most);
    return most[0];
  }

  int ties(int p, int o, int h) {
    if (noP(p) || noP(o) || p == o || noH(h)) return -2;
    List<int[]> l = bestDays(p, o, new int[1]);
    return l.isEmpty() ? NONE : l.get(0)[h];
  }

  int steps(int p, int o) {
    if (noP(p) || noP(o) || p == o) return -2;
    int m = NONE;
    for (int[] d : bestDays(p, o, new int[1])) {
      int s = 0;
      for (int h = 1; h < d.length; h++) s += Math.abs(d[h] - d[h - 1]);
      if (m == NONE || s < m) m = s;
    }
    return m;
  }

  // ---- deeds

  private boolean deed(boolean[][] g, int p, int l, int h) {
    return g[p][h] && Math.abs(place(p, h) - l) <= num("pace");
  }

  int deeds(int p, int l) {
    if (noP(p) || noL(l)) return -2;
    boolean[] r = new boolean[hours()];
    for (int h = 0; h < hours(); h++) r[h] = deed(gapsNow(), p, l, h);
    return bits(r);
  }

  int can(int l, int h) {
    if (noL(l) || noH(h)) return -2;
    boolean[] r = new boolean[people()];
    for (int p = 0; p < people(); p++) r[p] = deed(gapsNow(), p, l, h);
    return bits(r);
  }

  int safe() {
    if (none()) return -2;
    boolean[] r = new boolean[num("places")];
    for (int l = 0; l < r.length; l++) {
      r[l] = true;
      for (int h = 0; h < hours(); h++) r[l] &= can(l, h) == 0;
    }
    return bits(r);
  }

  int guard(int p, int l) {
    if (noP(p) || noL(l)) return -2;
    boolean[] r = new boolean[people()];
    for (int o = 0; o < people(); o++) {
      if (o == p) continue;
      List<int[]> oaths = pairs(oathsNow());
      oaths.add(new int[] {o, p});
      boolean[][] g = gapsBy(placesNow(), oaths, 0);
      r[o] = true;
      for (int h = 0; h < hours(); h++) r[o] &= !deed(g, p, l, h);
    }
    return bits(r);
  }

  int guards(int p) {
    if (noP(p)) return -2;
    return guarded(p) == NONE ? NONE : Integer.bitCount(guarded(p));
  }

  int guarded(int p) {
    if (noP(p)) return -2;
    for (int size = 0; size < 7; size++) for (int set = 0; set < 128; set++) {
      if (Integer.bitCount(set) != size || (set >> p & 1) == 1 || set >= 1 << people()) continue;
      List<int[]> oaths = pairs(oathsNow());
      for (int o = 0; o < 7; o++) if ((set >> o & 1) == 1) oaths.add(new int[] {o, p});
      if (ones(gapsBy(placesNow(), oaths, 0)[p]) == 0) return set;
    }
    return NONE;
  }

  // ---- rows

  private int refuse(int s, int each, String kinds) {
    if (s < 0 || s > 3 || none()) return -2;
    List<Long> r = rows.get(s);
    if (r == null) return -6;
    if (r.size() % each != 0) return -2;
    for (int i = 0; i < r.size(); i++) {
      long v = r.get(i);
      char k = kinds.charAt(i % each);
      if (k == 'p' && noP(v) || k == 'h' && noH(v) || k == 'l' && noL(v) || k == 'b' && v != 0 && v != 1) return -2;
      if (kinds.equals("pph") && i % 3 == 1 && r.get(i - 1).equals(r.get(i))) return -2;
    }
    return 0;
  }

  private int n(int s, int i) { return (int) (long) rows.get(s).get(i); }

  int who(int s) {
    int no = refuse(s, 2, "hl");
    if (no != 0) return no;
    int v = (1 << people()) - 1;
    for (int i = 0; i < rows.get(s).size(); i += 2) v &= can(n(s, i + 1), n(s, i));
    return v;
  }

  /** The one asked and how many are left. */
  private int[] asked(int s) {
    int v = who(s);
    int[] a = {NONE, Integer.bitCount(v)};
    if (rows.get(s).isEmpty()) return a;
    for (int p = 0; p < people(); p++) {
      int yes = 0;
      int no = 0;
      for (int c = 0; c < people(); c++) {
        if ((v >> c & 1) == 0) continue;
        if (c != p && sees(p, c, n(s, 0)) == 1) yes++; else no++;
      }
      if (Math.max(yes, no) < a[1]) a = new int[] {p, Math.max(yes, no)};
    }
    return a;
  }

  int ask(int s) { return who(s) < 0 ? who(s) : asked(s)[0]; }
  int leaves(int s) { return who(s) < 0 ? who(s) : asked(s)[1]; }

  int lies(int s) {
    int no = refuse(s, 3, "pph");
    if (no != 0) return no;
    int c = 0;
    for (int i = 0; i < rows.get(s).size(); i += 3) if (sees(n(s, i), n(s, i + 1), n(s, i + 2)) == 0) c++;
    return c;
  }

  int liars(int s) {
    int no = refuse(s, 3, "pph");
    if (no != 0) return no;
    boolean[] r = new boolean[people()];
    for (int i = 0; i < rows.get(s).size(); i += 3) if (sees(n(s, i), n(s, i + 1), n(s, i + 2)) == 0) r[n(s, i)] = true;
    return bits(r);
  }

  int closed(int s, int p) {
    if (noP(p)) return -2;
    int no = refuse(s, 3, "pph");
    if (no != 0) return no;
    Set<Integer> hours = new HashSet<>();
    for (int i = 0; i < rows.get(s).size(); i += 3)
      if (n(s, i + 1) == p && sees(n(s, i), p, n(s, i + 2)) == 1 && gapsNow()[p][n(s, i + 2)]) hours.add(n(s, i + 2));
    return hours.size();
  }

  private List<int[]> explaining(int s) {
    List<int[]> l = new ArrayList<>();
    List<int[]> r = allRotas();
    List<boolean[][]> g = gapsOf(r);
    for (int k = 0; k < r.size(); k++) {
      boolean so = true;
      for (int i = 0; i < rows.get(s).size(); i += 3) so &= g.get(k)[n(s, i)][n(s, i + 1)] == (n(s, i + 2) == 1);
      if (so) l.add(r.get(k));
    }
    return l;
  }

  int worn(int s) {
    int no = refuse(s, 3, "phb");
    return no != 0 ? no : explaining(s).size();
  }

  int wore(int s, int p) {
    if (noP(p)) return -2;
    int no = refuse(s, 3, "phb");
    if (no != 0) return no;
    List<int[]> l = explaining(s);
    return l.isEmpty() ? NONE : l.get(0)[p];
  }

  int surely(int s, int p) {
    if (noP(p)) return -2;
    int no = refuse(s, 3, "phb");
    if (no != 0) return no;
    Set<Integer> to = new HashSet<>();
    for (int[] r : explaining(s)) to.add(r[p]);
    return to.size() == 1 ? to.iterator().next() : NONE;
  }

  // ---- laws and fog

  int law(int from, int to) {
    if (noH(from) || noH(to) || to < from) return -2;
    int n = 0;
    for (boolean[] r : gapsNow()) for (int h = 0; h < hours(); h++) if (r[h] && (h < from || h > to)) n++;
    return n;
  }

  /** The chance of a gap in an hour, in tenths. */
  private int tenths(int p, int h) {
    boolean clear = gapsNow()[p][h];
    boolean foggy = gapsBy(placesNow(), pairs(oathsNow()), -1)[p][h];
    return (clear ? 10 - num("odds") : 0) + (foggy ? num("odds") : 0);
  }

  long chance(int p, int what) {
    if (noP(p) || what != 0 && what != 1) return -2;
    BigInteger above = BigInteger.ONE;
    for (int h = 0; h < hours(); h++) above = above.multiply(BigInteger.valueOf(10 - tenths(p, h)));
    BigInteger below = BigInteger.TEN.pow(hours());
    BigInteger d = above.gcd(below);
    return (what == 0 ? above : below).divide(d).longValueExact();
  }

  int likely(int p) {
    if (noP(p)) return -2;
    int b = NONE;
    for (int h = hours() - 1; h >= 0; h--) if (tenths(p, h) > 0 && (b == NONE || tenths(p, h) >= tenths(p, b))) b = h;
    return b;
  }

  private int fog(long seed) {
    BigInteger x = BigInteger.valueOf(seed);
    int f = 0;
    for (int h = 0; h < hours(); h++) {
      x = x.multiply(BigInteger.valueOf(1103515245)).add(BigInteger.valueOf(12345)).mod(BigInteger.valueOf(2147483648L));
      if (x.divide(BigInteger.valueOf(65536)).mod(BigInteger.TEN).intValue() < num("odds")) f |= 1 << h;
    }
    return f;
  }

  int drawn(int seed, int what) {
    if (none() || seed < 0 || seed > 2000000000 || what < 0 || what > 2) return -2;
    boolean[][] g = gapsBy(placesNow(), pairs(oathsNow()), fog(seed));
    boolean[] r = new boolean[people()];
    for (int p = 0; p < people(); p++) r[p] = ones(g[p]) > 0;
    return what == 0 ? fog(seed) : what == 1 ? bits(r) : total(g);
  }

  int luck(int seed, int n, int p) {
    if (noP(p) || seed < 0 || seed > 2000000000 || n < 1 || n > 20) return -2;
    int c = 0;
    for (int i = 0; i < n; i++) if (ones(gapsBy(placesNow(), pairs(oathsNow()), fog((long) seed + i))[p]) == 0) c++;
    return c;
  }

  // ---- acts

  int swear(int p, int o) {
    if (noP(p) || o != NONE && noP(o) || p == o) return -2;
    if (town.acts.size() == 40) return -5;
    int was = oathsNow()[p];
    town.acts.add(new int[] {0, p, o});
    return was;
  }

  int move(int p, int h, int l) {
    if (noP(p) || noH(h) || noL(l)) return -2;
    if (town.acts.size() == 40) return -5;
    int was = place(p, h);
    town.acts.add(new int[] {1, p, h, l});
    return was;
  }

  int undo() {
    if (none()) return -2;
    if (town.acts.isEmpty()) return -5;
    town.acts.remove(town.acts.size() - 1);
    return town.acts.size();
  }

  int anew() {
    if (none()) return -2;
    int n = town.acts.size();
    town.acts.clear();
    return n;
  }

  int tell(int what, int n) {
    if (none() || what < 0 || what > 3) return -2;
    String name = new String[] {"sight", "pace", "fine", "ring"}[what];
    int[] b = new int[][] {{0, 9}, {0, 9}, {0, 99}, {2, 3}}[what];
    if (n < b[0] || n > b[1]) return -2;
    if (!town.acts.isEmpty()) return -5;
    return town.n.put(name, n);
  }

  int count(int what) {
    String[] names = {"places", "hours", "sight", "pace", "fine", "ring", "odds"};
    if (what >= 0 && what < 7) return num(names[what]);
    int laid = 0;
    for (List<Long> r : rows) if (r != null) laid++;
    switch (what) {
      case 7: return people();
      case 8: return town.acts.size();
      case 9: return town.lines;
      case 10: return tape.length();
      case 11: return laid;
      default: return NONE;
    }
  }

  int image(int k) {
    if (k < 0 || k > 2) return -2;
    images[k] = town.copy();
    return 0;
  }

  int back(int k) {
    if (k < 0 || k > 2) return -2;
    if (images[k] == null) return -6;
    town = images[k].copy();
    return 0;
  }

  int row(int s, int w, int n) {
    if (s < 0 || s > 3 || w < 0 || w > 3 || n > 60) return -2;
    if (n < 0) return -3;
    List<Long> r = new ArrayList<>();
    for (int i = 0; i < n; i++) r.add(0L);
    rows.set(s, r);
    widths[s] = w;
    return 0;
  }

  int write(int s, int i, long v) {
    if (s < 0 || s > 3) return -2;
    if (rows.get(s) == null) return -6;
    if (i < 0 || i >= rows.get(s).size()) return -7;
    long unit = 64 - 8L * (1 << widths[s]);
    rows.get(s).set(i, v << unit >> unit);
    return 0;
  }

  int paste(int s, int i, int to, int k, int n) {
    if (s < 0 || s > 3 || to < 0 || to > 3) return -2;
    if (rows.get(s) == null || rows.get(to) == null) return -6;
    if (widths[s] != widths[to]) return -8;
    if (i < 0 || k < 0 || n < 0 || (long) i + n > rows.get(s).size() || (long) k + n > rows.get(to).size()) return -7;
    List<Long> some = new ArrayList<>(rows.get(s).subList(i, i + n));
    for (int j = 0; j < n; j++) rows.get(to).set(k + j, some.get(j));
    return 0;
  }
}
