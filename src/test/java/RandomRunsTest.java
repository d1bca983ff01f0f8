import java.util.Random;

/** Runs of calls by a fixed seed on the class and on the model, whose answers must be alike. */
public final class RandomRunsTest {
  private static final int RUNS = 200, CALLS = 512;
  private static final int KINDS = 37;

  private final Random random;
  private final OwnWeather x = new OwnWeather();
  private final Model y = new Model();
  private String call;
  private long got, want;
  private int calls = 0;

  private RandomRunsTest(long seed) { random = new Random(seed); }

  public static void main(String[] args) {
    int wrong = 0;
    for (int run = 0; run < RUNS; run++) wrong += new RandomRunsTest(run).play(run);
    System.out.println(wrong == 0 ? RUNS + " random runs are as due" : wrong + " random runs are not as due");
    if (wrong != 0) System.exit(1);
  }

  private int play(int run) {
    tellText(0);
    tellText(1);
    while (calls < CALLS) {
      one();
      if (got != want) {
        System.out.println("run " + run + ", call " + calls + ": " + call + " answered " + got + ", due is " + want);
        return 1;
      }
    }
    return 0;
  }

  /** Mostly a number below a bound, at times one at or past an edge. */
  private int some(int bound) {
    int r = random.nextInt(60);
    if (r == 0) return -1;
    if (r == 1) return bound;
    if (r == 2) return random.nextInt();
    return random.nextInt(Math.max(bound, 1));
  }

  private void answer(String name, long a, long b, int... args) {
    StringBuilder s = new StringBuilder(name).append('(');
    for (int i = 0; i < args.length; i++) s.append(i == 0 ? "" : ", ").append(args[i]);
    call = s.append(')').toString();
    got = a;
    want = b;
    calls++;
  }

  /** Mostly a number of what there is, if there is any. */
  private int of(int there, int most) { return some(there > 0 && random.nextInt(8) != 0 ? there : most); }

  private void tellText(int text) {
    int n = random.nextInt(10) == 0 ? 0 : 2 + random.nextInt(text == 0 ? 7 : 5), span = 1 + random.nextInt(10);
    StringBuilder s = new StringBuilder();
    for (int i = 0; i < n; i++) {
      int low = random.nextInt(text == 0 ? span : 10);
      s.append(i == 0 ? "" : ";").append(low);
      if (text == 0) s.append("ooohhc".charAt(random.nextInt(6)));
      else s.append(low + random.nextInt(10 - low));
    }
    answer("wipe", x.wipe(text), y.wipe(text), text);
    for (char b : s.toString().toCharArray()) {
      if (got == want && calls < CALLS) answer("type", x.type(text, b), y.type(text, b), text, (int) b);
    }
  }

  private void one() {
    int kind = random.nextInt(KINDS);
    if (kind < 3) {
      texts();
    } else if (kind < 10) {
      people(kind);
    } else if (kind < 18) {
      hours(kind);
    } else if (kind < 29) {
      plans(kind);
    } else if (kind < 36) {
      sheets(kind);
    } else if (random.nextInt(15) == 0) {
      answer("digest", x.digest(), y.digest());
    } else {
      int what = some(9);
      answer("count", x.count(what), y.count(what), what);
    }
  }

  /** Types a little, and soon tells a faulty text anew. */
  private void texts() {
    int t = random.nextInt(2);
    boolean isWell = y.fault(t) == OwnWeather.NONE;
    int some = some(2), b = random.nextInt(8) == 0 ? some(256) : "0123456789ohc;".charAt(random.nextInt(14));
    switch (random.nextInt(isWell ? 24 : 4)) {
      case 0 -> tellText(t);
      case 1 -> answer("type", x.type(some, b), y.type(some, b), some, b);
      case 2 -> answer("undo", x.undo(some), y.undo(some), some);
      default -> answer("fault", x.fault(some), y.fault(some), some);
    }
  }

  private void people(int kind) {
    int a = some(2), h = some(24), p = of(y.count(0), 8), q = of(y.count(1), 6), s = some(4);
    switch (kind) {
      case 3 -> answer("person", x.person(p, a), y.person(p, a), p, a);
      case 4 -> answer("place", x.place(q, a), y.place(q, a), q, a);
      case 5, 6, 7 -> answer("go", x.go(h, p, q), y.go(h, p, q), h, p, q);
      case 8 -> answer("back", x.back(), y.back());
      default -> answer("read", x.read(s), y.read(s), s);
    }
  }

  private void hours(int kind) {
    int h = some(24), p = of(y.count(0), 8), q = of(y.count(1), 6), what = some(2);
    switch (kind) {
      case 10 -> answer("where", x.where(h, p), y.where(h, p), h, p);
      case 11 -> answer("bright", x.bright(h, p), y.bright(h, p), h, p);
      case 12 -> answer("crowd", x.crowd(h, q), y.crowd(h, q), h, q);
      case 13 -> answer("sky", x.sky(h, q, what), y.sky(h, q, what), h, q, what);
      case 14 -> answer("met", x.met(h), y.met(h), h);
      case 15 -> answer("spoilt", x.spoilt(q), y.spoilt(q), q);
      case 16 -> answer("lightning", x.lightning(what), y.lightning(what), what);
      default -> answer("settles", x.settles(), y.settles());
    }
  }

  private void plans(int kind) {
    int h = some(24), p = of(y.count(0), 8), q = of(y.count(1), 6), what = some(2), b = some(10), c = some(17);
    int seed = random.nextInt();
    switch (kind) {
      case 18 -> answer("send", x.send(q, h, what), y.send(q, h, what), q, h, what);
      case 19 -> answer("keep", x.keep(q, h, b, what), y.keep(q, h, b, what), q, h, b, what);
      case 20 -> {
        int i = random.nextInt(3) == 0 ? -1 : some(8);
        answer("row", x.row(h, q, i), y.row(h, q, i), h, q, i);
      }
      case 21 -> {
        int as = random.nextInt(6) == 0 ? b : Math.max(y.bright(h, p), 0);
        answer("seen", x.seen(h, p, as), y.seen(h, p, as), h, p, as);
      }
      case 22 -> answer("fog", x.fog(h, q, what), y.fog(h, q, what), h, q, what);
      case 23 -> {
        if (random.nextInt(2) == 0) answer("forget", x.forget(what), y.forget(what), what);
        else answer("hid", x.hid(), y.hid());
      }
      case 24 -> answer("may", x.may(p), y.may(p), p);
      case 25 -> answer("hid", x.hid(), y.hid());
      case 26 -> answer("news", x.news(c, q, h, what), y.news(c, q, h, what), c, q, h, what);
      case 27 -> {
        int from = random.nextInt(5) == 0 ? some(24) : 18 + random.nextInt(6);
        answer("roof", x.roof(c, q, from), y.roof(c, q, from), c, q, from);
      }
      default -> {
        int who = random.nextInt(3) == 0 ? -1 : p;
        answer("day", x.day(seed, who), y.day(seed, who), seed, who);
      }
    }
  }

  private void sheets(int kind) {
    int s = some(4), t = some(4), form = formOf(s), i = some(30), j = some(30), h = some(24), n = some(61);
    int v = random.nextInt(4) == 0 ? random.nextInt() : random.nextInt(9);
    switch (kind) {
      case 29 -> {
        if (random.nextInt(3) == 0) { answer("count", x.count(8), y.count(8), 8); break; }
        int f = random.nextInt(3) == 0 ? some(3) : 1;
        answer("sheet", x.sheet(s, f, n), y.sheet(s, f, n), s, f, n);
      }
      case 30 -> {
        if (random.nextInt(8) == 0) answer("lose", x.lose(s), y.lose(s), s);
        else answer("get", x.get(s, form, i), y.get(s, form, i), s, form, i);
      }
      case 31, 32 -> answer("lay", x.lay(s, form, i, v), y.lay(s, form, i, v), s, form, i, v);
      case 33 -> answer("get", x.get(s, form, i), y.get(s, form, i), s, form, i);
      case 34 -> {
        int few = random.nextInt(2) == 0 ? n : random.nextInt(6);
        answer("copy", x.copy(s, i, t, j, few), y.copy(s, i, t, j, few), s, i, t, j, few);
      }
      default -> answer("write", x.write(h, s), y.write(h, s), h, s);
    }
  }

  /** Mostly the form that the sheet has, found by asking the model. */
  private int formOf(int s) {
    if (random.nextInt(6) == 0) return some(3);
    return y.formOrZero(s);
  }
}
