import java.math.BigInteger;
import java.util.ArrayList;
import java.util.Arrays;
import java.util.List;

/** The document once more, told as naively as can be, for RandomRunsTest to compare with. */
final class Model {
  private static final int NONE = -1, BAD = -2, NOT = -3, FULL = -4;
  private static final String[] FORMS = {"[0-9][ohc](;[0-9][ohc]){0,7}", "[0-9][0-9](;[0-9][0-9]){0,5}"};
  private static final String[][] COMPLETIONS = {{"", "o", "0o"}, {"", "9", "09"}};
  private static final int[] LIMITS = {23, 17};

  private final StringBuilder[] texts = {new StringBuilder(), new StringBuilder()};
  private final List<int[]> goings = new ArrayList<>();
  private final List<int[]> seen = new ArrayList<>();
  private final List<int[]> fogs = new ArrayList<>();
  private final Object[] sheets = new Object[4];
  private int finding = 0;

  /** A run of the valley: where and how bright each is in each hour. */
  private static final class Run {
    final int[][] at = new int[24][];
    final int[][] bright = new int[24][];
    final boolean[][] lightning = new boolean[24][6];
  }

  // ---- reading the texts

  private boolean well(int t, String s) {
    if (!s.matches(FORMS[t])) return false;
    if (t == 1) for (String e : s.split(";")) if (e.charAt(1) < e.charAt(0)) return false;
    return true;
  }

  private boolean canGoOn(int t, String s) {
    for (String c : COMPLETIONS[t]) if (well(t, s + c)) return true;
    return false;
  }

  private String[] entries(int t) {
    return texts[t].length() == 0 || faultOf(t) != NONE ? new String[0] : texts[t].toString().split(";");
  }

  private int faultOf(int t) {
    String s = texts[t].toString();
    if (s.isEmpty() || well(t, s)) return NONE;
    for (int i = 0; i < s.length(); i++) if (!canGoOn(t, s.substring(0, i + 1))) return i;
    return s.length();
  }

  private int n() { return entries(0).length; }
  private int m() { return entries(1).length; }
  private int first(int p) { return entries(0)[p].charAt(0) - '0'; }
  private int kind(int p) { return "ohc".indexOf(entries(0)[p].charAt(1)); }
  private int low(int q) { return entries(1)[q].charAt(0) - '0'; }
  private int high(int q) { return entries(1)[q].charAt(1) - '0'; }

  private int[] firsts() {
    int[] a = new int[n()];
    for (int p = 0; p < a.length; p++) a[p] = first(p);
    return a;
  }

  // ---- running the valley

  private static int placeOf(int hour, int person, List<int[]> told, int places) {
    int[] best = {-1, person, 0};
    for (int[] g : told) if (g[1] == person && g[0] <= hour && g[0] >= best[0]) best = g;
    return best[2] < places ? best[2] : NONE;
  }

  private Run run(int[] first, List<int[]> told) {
    Run r = new Run();
    int n = n(), m = m();
    int[] kinds = new int[n];
    for (int p = 0; p < n; p++) kinds[p] = kind(p);
    for (int h = 0; h < 24; h++) {
      r.at[h] = new int[n];
      for (int p = 0; p < n; p++) r.at[h][p] = placeOf(h, p, told, m);
      r.bright[h] = h == 0 ? first.clone() : later(r, h - 1, kinds);
      for (int p = 0; p < n; p++)
        for (int o = 0; o < p; o++)
          if (r.at[h][p] != NONE && r.at[h][p] == r.at[h][o] && r.bright[h][p] <= 1 && r.bright[h][o] <= 1)
            r.lightning[h][r.at[h][p]] = true;
    }
    return r;
  }

  private static int[] later(Run r, int h, int[] kinds) {
    int[] next = r.bright[h].clone();
    for (int p = 0; p < next.length; p++) {
      int place = r.at[h][p];
      if (place == NONE || kinds[p] == 2) continue;
      double sum = 0, others = 0;
      for (int o = 0; o < next.length; o++)
        if (o != p && r.at[h][o] == place) { sum += r.bright[h][o]; others++; }
      if (r.lightning[h][place]) next[p] = 0;
      else if (others > 0 && sum / others > r.bright[h][p]) next[p]++;
      else if (others > 0 && sum / others < r.bright[h][p]) next[p]--;
    }
    return next;
  }

  private Run told() { return run(firsts(), goings); }

  private static List<Integer> there(Run r, int h, int place) {
    List<Integer> l = new ArrayList<>();
    for (int p = 0; p < r.at[h].length; p++) if (r.at[h][p] == place) l.add(p);
    return l;
  }

  private boolean metIn(Run r, int h, int place) {
    List<Integer> l = there(r, h, place);
    int sum = 0;
    for (int p : l) sum += r.bright[h][p];
    return !l.isEmpty() && low(place) * l.size() <= sum && sum <= high(place) * l.size();
  }

  private static boolean in(int v, int below) { return 0 <= v && v < below; }
  private int find(int number) { finding = number; return -10 - number; }
  private static long least(int refusal) { return Long.MIN_VALUE - refusal; }

  // ---- people, places

  int type(int t, int b) {
    if (!in(t, 2) || !in(b, 256)) return BAD;
    if (texts[t].length() == LIMITS[t]) return FULL;
    return texts[t].append((char) b).length();
  }

  int wipe(int t) {
    if (!in(t, 2)) return BAD;
    int had = texts[t].length();
    texts[t].setLength(0);
    return had;
  }

  int undo(int t) {
    if (!in(t, 2)) return BAD;
    if (texts[t].length() == 0) return NOT;
    return texts[t].deleteCharAt(texts[t].length() - 1).length();
  }

  int fault(int t) { return in(t, 2) ? faultOf(t) : BAD; }
  int person(int p, int what) { return !in(p, n()) || !in(what, 2) ? BAD : what == 0 ? first(p) : kind(p); }
  int place(int q, int what) { return !in(q, m()) || !in(what, 2) ? BAD : what == 0 ? low(q) : high(q); }

  int go(int h, int p, int q) {
    if (!in(h, 24) || !in(p, 8) || !in(q, 6)) return BAD;
    if (goings.size() == 20) return FULL;
    goings.add(new int[] {h, p, q});
    return goings.size();
  }

  int back() {
    if (goings.isEmpty()) return NOT;
    goings.remove(goings.size() - 1);
    return goings.size();
  }

  int read(int s) {
    if (!in(s, 4)) return BAD;
    if (sheets[s] == null) return find(1);
    int k = 0;
    while (3 * k + 2 < size(s) && go(item(s, 3 * k), item(s, 3 * k + 1), item(s, 3 * k + 2)) > 0) k++;
    return k;
  }

  // ---- hours

  int where(int h, int p) { return !in(h, 24) || !in(p, n()) ? BAD : placeOf(h, p, goings, m()); }
  int bright(int h, int p) { return !in(h, 24) || !in(p, n()) ? BAD : told().bright[h][p]; }

  int crowd(int h, int q) {
    if (!in(h, 24) || !in(q, m())) return BAD;
    return bits(there(told(), h, q));
  }

  private static int bits(List<Integer> l) {
    int b = 0;
    for (int p : l) b |= 1 << p;
    return b;
  }

  private static long fraction(BigInteger above, BigInteger below, int what) {
    BigInteger g = above.gcd(below);
    return (what == 0 ? above : below).divide(g).longValueExact();
  }

  long sky(int h, int q, int what) {
    if (!in(h, 24) || !in(q, m()) || !in(what, 2)) return least(BAD);
    Run r = told();
    List<Integer> l = there(r, h, q);
    if (l.isEmpty()) return least(NOT);
    long sum = 0;
    for (int p : l) sum += r.bright[h][p];
    return fraction(BigInteger.valueOf(sum), BigInteger.valueOf(l.size()), what);
  }

  int met(int h) {
    if (!in(h, 24)) return BAD;
    Run r = told();
    int b = 0;
    for (int q = 0; q < m(); q++) if (metIn(r, h, q)) b += 1 << q;
    return b;
  }

  int spoilt(int q) {
    if (!in(q, m())) return BAD;
    Run r = told();
    int b = 0;
    for (int h = 0; h < 24; h++) if (!there(r, h, q).isEmpty() && !metIn(r, h, q)) b += 1 << h;
    return b;
  }

  int lightning(int what) {
    if (!in(what, 2)) return BAD;
    Run r = told();
    for (int h = 0; h < 24; h++) for (int q = 0; q < 6; q++) if (r.lightning[h][q]) return what == 0 ? h : q;
    return NONE;
  }

  int settles() {
    Run r = told();
    for (int from = 0; from < 24; from++) {
      boolean still = true;
      for (int h = from; h < 24; h++) still &= Arrays.equals(r.bright[h], r.bright[from]);
      if (still) return from;
    }
    throw new IllegalStateException();
  }

  // ---- plans

  private static int better(int a, int b) {
    if (a == NONE) return b;
    int x = Integer.bitCount(a), y = Integer.bitCount(b);
    return x < y || x == y && a < b ? a : b;
  }

  int send(int q, int h, int what) {
    if (!in(q, m()) || !in(h, 24) || !in(what, 2)) return BAD;
    int best = NONE;
    for (int set = (1 << n()) - 1; set >= 0; set--) {
      if ((set & bits(there(told(), 0, q))) != 0) continue;
      List<int[]> more = new ArrayList<>(goings);
      for (int p = 0; p < n(); p++) if ((set >> p) % 2 == 1) more.add(new int[] {0, p, q});
      if (metIn(run(firsts(), more), h, q)) best = better(best, set);
    }
    return best == NONE ? NONE : what == 0 ? Integer.bitCount(best) : best;
  }

  int keep(int q, int h, int bright, int what) {
    if (!in(q, m()) || !in(h, 24) || !in(bright, 10) || !in(what, 2)) return BAD;
    Run r = told();
    List<Integer> l = there(r, h, q);
    int best = NONE;
    for (int left = 1; left < 256; left++) {
      if ((left & ~bits(l)) != 0) continue;
      double sum = 0;
      for (int p : l) if ((left >> p) % 2 == 1) sum += r.bright[h][p];
      if (sum / Integer.bitCount(left) >= bright) best = better(best, bits(l) - left);
    }
    return best == NONE ? NONE : what == 0 ? Integer.bitCount(best) : best;
  }

  private int[] bestRow;
  private int bestCost;

  int row(int h, int q, int i) {
    if (!in(h, 24) || !in(q, m()) || !in(i, 8) && i != NONE) return BAD;
    Run r = told();
    List<Integer> l = there(r, h, q);
    bestRow = new int[0];
    bestCost = l.isEmpty() ? 0 : 1000;
    if (!l.isEmpty()) rows(l, new ArrayList<>(), 0, r.bright[h]);
    return i == NONE ? bestCost : i < bestRow.length ? bestRow[i] : NONE;
  }

  /** Goes through all rows by rising order, so the first of the best is the least. */
  private void rows(List<Integer> all, List<Integer> sofar, int cost, int[] bright) {
    if (cost >= bestCost) return;
    if (sofar.size() == all.size()) {
      bestCost = cost;
      bestRow = sofar.stream().mapToInt(x -> x).toArray();
      return;
    }
    for (int p : all) {
      if (sofar.contains(p)) continue;
      int more = sofar.isEmpty() ? 0 : Math.abs(bright[p] - bright[sofar.get(sofar.size() - 1)]);
      sofar.add(p);
      rows(all, sofar, cost + more, bright);
      sofar.remove(sofar.size() - 1);
    }
  }

  // ---- seen, fogs, news

  int seen(int h, int p, int bright) {
    if (!in(h, 24) || !in(p, 8) || !in(bright, 10)) return BAD;
    if (seen.size() == 8) return FULL;
    seen.add(new int[] {h, p, bright});
    return seen.size();
  }

  int fog(int h, int q, int is) {
    if (!in(h, 24) || !in(q, 6) || !in(is, 2)) return BAD;
    if (fogs.size() == 8) return FULL;
    fogs.add(new int[] {h, q, is});
    return fogs.size();
  }

  int forget(int what) {
    if (!in(what, 2)) return BAD;
    List<int[]> l = what == 0 ? seen : fogs;
    int had = l.size();
    l.clear();
    return had;
  }

  int may(int p) {
    if (!in(p, n())) return BAD;
    int b = 0;
    for (int bright = 0; bright < 10; bright++) {
      int[] f = firsts();
      f[p] = bright;
      Run r = run(f, goings);
      boolean all = true;
      for (int[] s : seen) all &= s[1] < n() && r.bright[s[0]][s[1]] == s[2];
      if (all) b += 1 << bright;
    }
    return b;
  }

  int hid() {
    int b = 0;
    for (int p = 0; p < n(); p++) {
      boolean all = true;
      for (int[] f : fogs) all &= (placeOf(f[0], p, goings, m()) == f[1] ? 1 : 0) == f[2];
      if (all) b += 1 << p;
    }
    return b;
  }

  /** Over 16 to the 8 cases, told apart person by person. */
  private BigInteger chance(int c, int q, int h, int p, int[] f) {
    if (p == n()) return metIn(run(f, goings), h, q) ? BigInteger.ONE : BigInteger.ZERO;
    if (kind(p) == 2) return chance(c, q, h, p + 1, f).multiply(BigInteger.valueOf(16));
    int[] sad = f.clone();
    sad[p] = Math.max(0, sad[p] - 3);
    BigInteger none = BigInteger.ZERO;
    BigInteger a = c == 0 ? none : chance(c, q, h, p + 1, sad).multiply(BigInteger.valueOf(c));
    BigInteger b = c == 16 ? none : chance(c, q, h, p + 1, f).multiply(BigInteger.valueOf(16 - c));
    return a.add(b);
  }

  long news(int c, int q, int h, int what) {
    if (!in(c, 17) || !in(q, m()) || !in(h, 24) || !in(what, 2)) return least(BAD);
    return fraction(chance(c, q, h, 0, firsts()), BigInteger.valueOf(16).pow(n()), what);
  }

  int roof(int c, int q, int h) {
    if (!in(c, 17) || !in(q, m()) || !in(h, 24)) return BAD;
    for (int at = h; at < 24; at++)
      if (chance(c, q, at, 0, firsts()).equals(BigInteger.valueOf(16).pow(n()))) return at;
    return NONE;
  }

  int day(int seed, int p) {
    if (p != NONE && !in(p, n())) return BAD;
    List<int[]> more = new ArrayList<>(goings);
    long s = seed;
    for (int h = 0; h < 24 && n() > 0 && m() > 0; h++) {
      s = (int) (s * 1103515245L + 12345L);
      int who = (int) (((s & 0xFFFFFFFFL) / 65536) % n());
      s = (int) (s * 1103515245L + 12345L);
      more.add(new int[] {h, who, (int) (((s & 0xFFFFFFFFL) / 65536) % m())});
    }
    Run r = run(firsts(), more);
    if (p != NONE) return r.bright[23][p];
    int hours = 0;
    for (int h = 0; h < 24; h++) {
      boolean any = false;
      for (boolean b : r.lightning[h]) any |= b;
      if (any) hours++;
    }
    return hours;
  }

  // ---- sheets, as true rows of bytes, shorts and ints

  private int form(int s) { return sheets[s] instanceof byte[] ? 0 : sheets[s] instanceof short[] ? 1 : 2; }
  int formOrZero(int s) { return in(s, 4) && sheets[s] != null ? form(s) : 0; }
  private int size(int s) { return java.lang.reflect.Array.getLength(sheets[s]); }
  private int item(int s, int i) { return java.lang.reflect.Array.getInt(sheets[s], i); }

  private void put(int s, int i, int v) {
    if (sheets[s] instanceof byte[] b) b[i] = (byte) v;
    else if (sheets[s] instanceof short[] b) b[i] = (short) v;
    else ((int[]) sheets[s])[i] = v;
  }

  int sheet(int s, int form, int n) {
    if (!in(s, 4) || !in(form, 3) || n > 60) return BAD;
    if (n < 0) return find(5);
    sheets[s] = form == 0 ? new byte[n] : form == 1 ? new short[n] : new int[n];
    return n;
  }

  int lose(int s) {
    if (!in(s, 4)) return BAD;
    if (sheets[s] == null) return find(1);
    int had = size(s);
    sheets[s] = null;
    return had;
  }

  int lay(int s, int form, int i, int v) {
    if (!in(s, 4) || !in(form, 3)) return BAD;
    if (sheets[s] == null) return find(1);
    if (form(s) != form) return find(3);
    if (!in(i, size(s))) return find(2);
    put(s, i, v);
    return 1;
  }

  int get(int s, int form, int i) {
    if (in(s, 4) && in(form, 3)) {
      if (sheets[s] == null) find(1);
      else if (form(s) != form) find(3);
      else if (!in(i, size(s))) find(2);
      else return item(s, i);
    }
    return Integer.MIN_VALUE;
  }

  int copy(int s, int i, int t, int j, int n) {
    if (!in(s, 4) || !in(t, 4)) return BAD;
    if (sheets[s] == null || sheets[t] == null) return find(1);
    if (form(s) != form(t)) return find(4);
    if (i < 0 || j < 0 || n < 0 || (long) i + n > size(s) || (long) j + n > size(t)) return find(2);
    int[] held = new int[n];
    for (int k = 0; k < n; k++) held[k] = item(s, i + k);
    for (int k = 0; k < n; k++) put(t, j + k, held[k]);
    return 1;
  }

  int write(int h, int s) {
    if (!in(h, 24) || !in(s, 4)) return BAD;
    if (sheets[s] == null) return find(1);
    int k = 0;
    for (; k < n() && k < size(s); k++) put(s, k, told().bright[h][k]);
    return k;
  }

  int count(int what) {
    if (!in(what, 9)) return BAD;
    int together = 0;
    for (int f : firsts()) together += f;
    return new int[] {n(), m(), texts[0].length(), texts[1].length(), goings.size(), seen.size(), fogs.size(),
        together, finding}[what];
  }

  long digest() {
    List<Long> l = new ArrayList<>();
    for (int what = 0; what < 8; what++) l.add((long) count(what));
    l.add((long) fault(0));
    l.add((long) fault(1));
    for (int h : new int[] {0, 1, 5, 23}) {
      l.add((long) met(h));
      for (int p = 0; p < n(); p++) l.addAll(List.of((long) where(h, p), (long) bright(h, p)));
      for (int q = 0; q < m(); q++) l.addAll(List.of((long) crowd(h, q), sky(h, q, 0), sky(h, q, 1)));
    }
    for (int q = 0; q < m(); q++) {
      l.addAll(List.of((long) spoilt(q), (long) send(q, 3, 0), (long) send(q, 3, 1), (long) keep(q, 2, 5, 0)));
      l.addAll(List.of((long) keep(q, 2, 5, 1), (long) row(1, q, NONE), (long) row(1, q, 0)));
      l.addAll(List.of(news(5, q, 2, 0), news(5, q, 2, 1), (long) roof(5, q, 0)));
    }
    for (int p = 0; p < n(); p++) l.add((long) may(p));
    for (int v : new int[] {lightning(0), lightning(1), settles(), hid(), day(7, NONE), day(7, 0)}) l.add((long) v);
    long h = 17;
    for (long v : l) h = 31 * h + v;
    return h;
  }
}
