import java.util.Arrays;
import java.util.function.ToLongFunction;

/**
 * "Refusals, the first that fits, in the order told at each act: BAD, NULL, NOT, FULL, other FINDINGS. They change
 * nothing (FINDINGS but count() 8)." Each refusal that a promise names, and each two of one call that both fit.
 */
public final class RefusalsTest {
  private static final Checks CHECKS = new Checks("refusals");
  private static final int NONE = Checks.NONE, BAD = Checks.BAD, NOT = Checks.NOT, FULL = Checks.FULL;
  private static final int NULL = Checks.NULL, INDEX = Checks.INDEX, CAST = Checks.CAST, STORE = Checks.STORE;
  private static final int SIZE = Checks.SIZE, LEAST = Checks.LEAST;
  private static final long BAD_LONG = Checks.BAD_LONG, NOT_LONG = Checks.NOT_LONG;

  public static void main(String[] args) {
    texts();
    goings();
    skies();
    seenAndFogs();
    sheets();
    items();
    copies();
    counts();
    CHECKS.end();
  }

  /** All is full that can be: both texts, goings, seen, fogs; sheet 0 has 60 bytes, 1 two shorts, 2 none, 3 is lost. */
  private static OwnWeather full() {
    OwnWeather x = Checks.told("9o;2h;5c;1o;0o;7o;8h;3c", "47;02;79;36;55;09");
    for (int k = 0; k < 20; k++) x.go(k, k % 5, 1 + k % 4);
    for (int k = 0; k < 8; k++) x.seen(0, k, x.person(k, 0));
    for (int k = 0; k < 8; k++) x.fog(k, k % 5, 0);
    x.sheet(0, 0, 60);
    x.lay(0, 0, 59, 7);
    Checks.items(x, 1, 1, 21, 22);
    x.sheet(2, 2, 0);
    return x;
  }

  private static long[] portrait(OwnWeather x) {
    long[] all = new long[350];
    int k = 0;
    all[k++] = x.digest();
    for (int p = 0; p < 8; p++) for (int what = 0; what < 2; what++) all[k++] = x.person(p, what);
    for (int q = 0; q < 6; q++) for (int what = 0; what < 2; what++) all[k++] = x.place(q, what);
    for (int i = 0; i <= 60; i++) all[k++] = x.get(0, 0, i);
    for (int i = 0; i <= 2; i++) all[k++] = x.get(1, 1, i);
    for (int s = 0; s < 4; s++) all[k++] = x.lose(s);
    for (int n = 0; n <= 20; n++) {
      for (int p = 0; p < 5; p++) all[k++] = x.where(20 - n, p);
      all[k++] = x.back();
    }
    for (int text = 0; text < 2; text++) for (int n = 0; n <= 23; n++) all[k++] = x.undo(text);
    return Arrays.copyOf(all, k);
  }

  /** On a full object: the answer, the finding that is told of it (0: none), and that nothing else is changed. */
  private static void refused(String what, ToLongFunction<OwnWeather> call, long answer, int finding) {
    OwnWeather x = full();
    CHECKS.due(what, call.applyAsLong(x), answer);
    CHECKS.due("count(8) after " + what, x.count(8), finding);
    CHECKS.due(what + " changed what is seen, first at", Arrays.mismatch(portrait(x), portrait(full())), -1);
  }

  private static void texts() {
    CHECKS.under("type: FULL");
    refused("type(0, 59)", x -> x.type(0, 59), FULL, 0);
    refused("type(1, 59)", x -> x.type(1, 59), FULL, 0);
    refused("type(0, 0)", x -> x.type(0, 0), FULL, 0);
    refused("type(1, 255)", x -> x.type(1, 255), FULL, 0);
    CHECKS.under("type: BAD ahead of FULL");
    refused("type(0, 256)", x -> x.type(0, 256), BAD, 0);
    refused("type(1, -1)", x -> x.type(1, -1), BAD, 0);
    refused("type(2, 59)", x -> x.type(2, 59), BAD, 0);
    CHECKS.under("undo: NOT");
    OwnWeather x = new OwnWeather();
    CHECKS.due("undo(0)", x.undo(0), NOT);
    CHECKS.due("undo(1)", x.undo(1), NOT);
    CHECKS.due("count(2)", x.count(2), 0);
    CHECKS.due("count(3)", x.count(3), 0);
    CHECKS.due("type(0, 53) after it", x.type(0, 53), 1);
    CHECKS.due("type(1, 53) after it", x.type(1, 53), 1);
    CHECKS.due("undo(1): the other text is not empty", x.undo(1), 0);
    CHECKS.due("undo(1): now it is", x.undo(1), NOT);
    CHECKS.under("undo: BAD, though nothing is there to be undone");
    CHECKS.due("undo(2)", new OwnWeather().undo(2), BAD);
    CHECKS.due("undo(-1)", new OwnWeather().undo(-1), BAD);
  }

  private static void goings() {
    CHECKS.under("go: FULL");
    refused("go(0, 0, 0)", x -> x.go(0, 0, 0), FULL, 0);
    refused("go(23, 7, 5)", x -> x.go(23, 7, 5), FULL, 0);
    CHECKS.under("go: BAD ahead of FULL, by each argument");
    refused("go(24, 0, 0)", x -> x.go(24, 0, 0), BAD, 0);
    refused("go(0, 8, 0)", x -> x.go(0, 8, 0), BAD, 0);
    refused("go(0, 0, 6)", x -> x.go(0, 0, 6), BAD, 0);
    CHECKS.under("back: NOT");
    OwnWeather x = new OwnWeather();
    CHECKS.due("back()", x.back(), NOT);
    CHECKS.due("count(4)", x.count(4), 0);
    CHECKS.due("go(0, 0, 0) after it", x.go(0, 0, 0), 1);
    CHECKS.under("read: NULL");
    refused("read(3)", y -> y.read(3), NULL, 1);
    CHECKS.under("read: BAD, though all sheets are lost");
    CHECKS.due("read(4)", x.read(4), BAD);
    CHECKS.due("read(-1)", x.read(-1), BAD);
    CHECKS.due("count(8)", x.count(8), 0);
    CHECKS.under("read: no room is no refusal, no going is told");
    refused("read(0)", y -> y.read(0), 0, 0);
    refused("read(2)", y -> y.read(2), 0, 0);
  }

  private static void skies() {
    CHECKS.under("sky: NOT");
    refused("sky(0, 5, 0)", x -> x.sky(0, 5, 0), NOT_LONG, 0);
    refused("sky(23, 5, 1)", x -> x.sky(23, 5, 1), NOT_LONG, 0);
    CHECKS.under("sky: BAD ahead of NOT, by each argument");
    refused("sky(24, 5, 0)", x -> x.sky(24, 5, 0), BAD_LONG, 0);
    refused("sky(-1, 5, 0)", x -> x.sky(-1, 5, 0), BAD_LONG, 0);
    refused("sky(0, 6, 0)", x -> x.sky(0, 6, 0), BAD_LONG, 0);
    refused("sky(0, 5, 2)", x -> x.sky(0, 5, 2), BAD_LONG, 0);
    refused("sky(0, 5, -1)", x -> x.sky(0, 5, -1), BAD_LONG, 0);
    CHECKS.under("Where the answer is a long, a refusal -x is the least long and x more");
    CHECKS.due("sky: BAD", full().sky(0, 6, 0), -9223372036854775806L);
    CHECKS.due("sky: NOT", full().sky(0, 5, 0), -9223372036854775805L);
    CHECKS.due("news: BAD", full().news(17, 0, 0, 0), -9223372036854775806L);
    CHECKS.under("BAD ahead of NONE, where NONE would be the answer");
    refused("send(5, 0, 2)", x -> x.send(5, 0, 2), BAD, 0);
    refused("keep(5, 0, 10, 0)", x -> x.keep(5, 0, 10, 0), BAD, 0);
    refused("keep(5, 0, 0, 2)", x -> x.keep(5, 0, 0, 2), BAD, 0);
    refused("row(0, 5, 8)", x -> x.row(0, 5, 8), BAD, 0);
    refused("row(0, 5, -2)", x -> x.row(0, 5, -2), BAD, 0);
    refused("roof(17, 5, 0)", x -> x.roof(17, 5, 0), BAD, 0);
    refused("lightning(2)", x -> x.lightning(2), BAD, 0);
  }

  private static void seenAndFogs() {
    CHECKS.under("seen: FULL");
    refused("seen(0, 0, 0)", x -> x.seen(0, 0, 0), FULL, 0);
    refused("seen(23, 7, 9)", x -> x.seen(23, 7, 9), FULL, 0);
    CHECKS.under("seen: BAD ahead of FULL, by each argument");
    refused("seen(24, 0, 0)", x -> x.seen(24, 0, 0), BAD, 0);
    refused("seen(0, 8, 0)", x -> x.seen(0, 8, 0), BAD, 0);
    refused("seen(0, 0, 10)", x -> x.seen(0, 0, 10), BAD, 0);
    CHECKS.under("fog: FULL");
    refused("fog(0, 0, 1)", x -> x.fog(0, 0, 1), FULL, 0);
    refused("fog(23, 5, 0)", x -> x.fog(23, 5, 0), FULL, 0);
    CHECKS.under("fog: BAD ahead of FULL, by each argument");
    refused("fog(24, 0, 1)", x -> x.fog(24, 0, 1), BAD, 0);
    refused("fog(0, 6, 1)", x -> x.fog(0, 6, 1), BAD, 0);
    refused("fog(0, 0, 2)", x -> x.fog(0, 0, 2), BAD, 0);
    CHECKS.under("SEEN and FOGS are full each by itself");
    OwnWeather x = full();
    x.forget(0);
    CHECKS.due("seen(0, 0, 9)", x.seen(0, 0, 9), 1);
    CHECKS.due("fog(0, 0, 1)", x.fog(0, 0, 1), FULL);
    CHECKS.due("go(0, 0, 0)", x.go(0, 0, 0), FULL);
    x = full();
    x.forget(1);
    CHECKS.due("fog(0, 0, 1)", x.fog(0, 0, 1), 1);
    CHECKS.due("seen(0, 0, 9)", x.seen(0, 0, 9), FULL);
    x = full();
    x.back();
    CHECKS.due("go(0, 0, 0)", x.go(0, 0, 0), 20);
    CHECKS.due("seen(0, 0, 9)", x.seen(0, 0, 9), FULL);
    CHECKS.due("fog(0, 0, 1)", x.fog(0, 0, 1), FULL);
  }

  private static void sheets() {
    CHECKS.under("sheet: BAD: SHEET, FORM, above 60");
    refused("sheet(4, 0, 1)", x -> x.sheet(4, 0, 1), BAD, 0);
    refused("sheet(-1, 0, 1)", x -> x.sheet(-1, 0, 1), BAD, 0);
    refused("sheet(0, 3, 1)", x -> x.sheet(0, 3, 1), BAD, 0);
    refused("sheet(0, -1, 1)", x -> x.sheet(0, -1, 1), BAD, 0);
    refused("sheet(1, 1, 61)", x -> x.sheet(1, 1, 61), BAD, 0);
    refused("sheet(3, 1, 61)", x -> x.sheet(3, 1, 61), BAD, 0);
    CHECKS.under("sheet: SIZE");
    refused("sheet(0, 0, -1)", x -> x.sheet(0, 0, -1), SIZE, 5);
    refused("sheet(3, 2, -1): of a lost one", x -> x.sheet(3, 2, -1), SIZE, 5);
    refused("sheet(1, 2, least)", x -> x.sheet(1, 2, Integer.MIN_VALUE), SIZE, 5);
    CHECKS.under("sheet: BAD ahead of SIZE");
    refused("sheet(4, 0, -1)", x -> x.sheet(4, 0, -1), BAD, 0);
    refused("sheet(-1, 0, -1)", x -> x.sheet(-1, 0, -1), BAD, 0);
    refused("sheet(0, 3, -1)", x -> x.sheet(0, 3, -1), BAD, 0);
    refused("sheet(0, -1, -1)", x -> x.sheet(0, -1, -1), BAD, 0);
    CHECKS.under("lose: NULL");
    refused("lose(3)", x -> x.lose(3), NULL, 1);
    CHECKS.under("lose: BAD, though all sheets are lost");
    CHECKS.due("lose(4)", new OwnWeather().lose(4), BAD);
    CHECKS.due("lose(-1)", new OwnWeather().lose(-1), BAD);
    CHECKS.under("write: NULL");
    refused("write(0, 3)", x -> x.write(0, 3), NULL, 1);
    refused("write(23, 3)", x -> x.write(23, 3), NULL, 1);
    CHECKS.under("write: BAD ahead of NULL");
    refused("write(24, 3)", x -> x.write(24, 3), BAD, 0);
    refused("write(-1, 3)", x -> x.write(-1, 3), BAD, 0);
    refused("write(0, 4)", x -> x.write(0, 4), BAD, 0);
    refused("write(0, -1)", x -> x.write(0, -1), BAD, 0);
  }

  private static void items() {
    CHECKS.under("lay: BAD ahead of NULL, CAST, INDEX");
    refused("lay(3, 3, 0, 5)", x -> x.lay(3, 3, 0, 5), BAD, 0);
    refused("lay(3, -1, 0, 5)", x -> x.lay(3, -1, 0, 5), BAD, 0);
    refused("lay(1, 3, 0, 5)", x -> x.lay(1, 3, 0, 5), BAD, 0);
    refused("lay(1, -1, -1, 5)", x -> x.lay(1, -1, -1, 5), BAD, 0);
    refused("lay(4, 1, 99, 5)", x -> x.lay(4, 1, 99, 5), BAD, 0);
    CHECKS.under("lay: NULL ahead of CAST, INDEX");
    refused("lay(3, 0, 0, 5)", x -> x.lay(3, 0, 0, 5), NULL, 1);
    refused("lay(3, 2, -1, 5)", x -> x.lay(3, 2, -1, 5), NULL, 1);
    CHECKS.under("lay: CAST, and ahead of INDEX");
    refused("lay(1, 0, 0, 5)", x -> x.lay(1, 0, 0, 5), CAST, 3);
    refused("lay(1, 2, 1, 5)", x -> x.lay(1, 2, 1, 5), CAST, 3);
    refused("lay(1, 2, 2, 5)", x -> x.lay(1, 2, 2, 5), CAST, 3);
    refused("lay(1, 0, -1, 5)", x -> x.lay(1, 0, -1, 5), CAST, 3);
    refused("lay(2, 1, 0, 5): of an empty one", x -> x.lay(2, 1, 0, 5), CAST, 3);
    CHECKS.under("lay: INDEX");
    refused("lay(1, 1, 2, 5)", x -> x.lay(1, 1, 2, 5), INDEX, 2);
    refused("lay(1, 1, -1, 5)", x -> x.lay(1, 1, -1, 5), INDEX, 2);
    refused("lay(0, 0, 60, 5)", x -> x.lay(0, 0, 60, 5), INDEX, 2);
    refused("lay(2, 2, 0, 5): of an empty one", x -> x.lay(2, 2, 0, 5), INDEX, 2);
    CHECKS.under("get: BAD: the least int, and no FINDING, ahead of NULL, CAST, INDEX");
    refused("get(4, 0, 0)", x -> x.get(4, 0, 0), LEAST, 0);
    refused("get(-1, 0, 0)", x -> x.get(-1, 0, 0), LEAST, 0);
    refused("get(3, 3, 0)", x -> x.get(3, 3, 0), LEAST, 0);
    refused("get(1, -1, 9)", x -> x.get(1, -1, 9), LEAST, 0);
    CHECKS.under("get: so are NULL, CAST, INDEX (count() 8 tells), in this order");
    refused("get(3, 1, 9)", x -> x.get(3, 1, 9), LEAST, 1);
    refused("get(3, 1, 0)", x -> x.get(3, 1, 0), LEAST, 1);
    refused("get(1, 0, 9)", x -> x.get(1, 0, 9), LEAST, 3);
    refused("get(1, 2, 0)", x -> x.get(1, 2, 0), LEAST, 3);
    refused("get(1, 1, 2)", x -> x.get(1, 1, 2), LEAST, 2);
    refused("get(1, 1, -1)", x -> x.get(1, 1, -1), LEAST, 2);
    refused("get(0, 0, 60)", x -> x.get(0, 0, 60), LEAST, 2);
    refused("get(2, 2, 0): of an empty one", x -> x.get(2, 2, 0), LEAST, 2);
  }

  private static void copies() {
    CHECKS.under("copy: BAD: the SHEETS, ahead of NULL, STORE, INDEX");
    refused("copy(4, 0, 3, 0, 1)", x -> x.copy(4, 0, 3, 0, 1), BAD, 0);
    refused("copy(3, 0, 4, 0, 1)", x -> x.copy(3, 0, 4, 0, 1), BAD, 0);
    refused("copy(-1, 0, 3, 0, 1)", x -> x.copy(-1, 0, 3, 0, 1), BAD, 0);
    refused("copy(3, 0, -1, 0, 1)", x -> x.copy(3, 0, -1, 0, 1), BAD, 0);
    refused("copy(1, 0, 4, 0, -1)", x -> x.copy(1, 0, 4, 0, -1), BAD, 0);
    refused("copy(4, -1, 1, 0, 1)", x -> x.copy(4, -1, 1, 0, 1), BAD, 0);
    CHECKS.under("copy: NULL: s, t, ahead of STORE, INDEX");
    refused("copy(3, 0, 1, 0, 1)", x -> x.copy(3, 0, 1, 0, 1), NULL, 1);
    refused("copy(1, 0, 3, 0, 1)", x -> x.copy(1, 0, 3, 0, 1), NULL, 1);
    refused("copy(3, 0, 3, 0, 0)", x -> x.copy(3, 0, 3, 0, 0), NULL, 1);
    refused("copy(3, -1, 1, 0, 1)", x -> x.copy(3, -1, 1, 0, 1), NULL, 1);
    refused("copy(1, 0, 3, 0, -1)", x -> x.copy(1, 0, 3, 0, -1), NULL, 1);
    CHECKS.under("copy: STORE, and ahead of INDEX");
    refused("copy(0, 0, 1, 0, 1)", x -> x.copy(0, 0, 1, 0, 1), STORE, 4);
    refused("copy(1, 0, 0, 0, 1)", x -> x.copy(1, 0, 0, 0, 1), STORE, 4);
    refused("copy(0, 0, 1, 0, 0): of no items", x -> x.copy(0, 0, 1, 0, 0), STORE, 4);
    refused("copy(0, 0, 2, 0, 1): to an empty one", x -> x.copy(0, 0, 2, 0, 1), STORE, 4);
    refused("copy(0, -1, 1, 0, 1)", x -> x.copy(0, -1, 1, 0, 1), STORE, 4);
    refused("copy(0, 0, 1, 0, 3)", x -> x.copy(0, 0, 1, 0, 3), STORE, 4);
    refused("copy(0, 0, 1, 0, -1)", x -> x.copy(0, 0, 1, 0, -1), STORE, 4);
    CHECKS.under("copy: INDEX: below 0");
    refused("copy(1, -1, 1, 0, 1)", x -> x.copy(1, -1, 1, 0, 1), INDEX, 2);
    refused("copy(1, 0, 1, -1, 1)", x -> x.copy(1, 0, 1, -1, 1), INDEX, 2);
    refused("copy(1, 0, 1, 0, -1)", x -> x.copy(1, 0, 1, 0, -1), INDEX, 2);
    refused("copy(1, -1, 1, 0, 0): of no items", x -> x.copy(1, -1, 1, 0, 0), INDEX, 2);
    refused("copy(1, 2, 1, 2, -1)", x -> x.copy(1, 2, 1, 2, -1), INDEX, 2);
    CHECKS.under("copy: INDEX: not so many");
    refused("copy(1, 1, 1, 0, 2)", x -> x.copy(1, 1, 1, 0, 2), INDEX, 2);
    refused("copy(1, 0, 1, 1, 2)", x -> x.copy(1, 0, 1, 1, 2), INDEX, 2);
    refused("copy(1, 0, 1, 0, 3)", x -> x.copy(1, 0, 1, 0, 3), INDEX, 2);
    refused("copy(2, 0, 2, 0, 1): of an empty one", x -> x.copy(2, 0, 2, 0, 1), INDEX, 2);
    refused("copy(0, 59, 0, 0, 2)", x -> x.copy(0, 59, 0, 0, 2), INDEX, 2);
    refused("copy(0, 0, 0, 1, 60)", x -> x.copy(0, 0, 0, 1, 60), INDEX, 2);
    CHECKS.under("copy: INDEX: not so many, where the sum of ints would wrap");
    refused("copy(1, 1, 1, 0, most)", x -> x.copy(1, 1, 1, 0, Integer.MAX_VALUE), INDEX, 2);
    refused("copy(1, 0, 1, 1, most)", x -> x.copy(1, 0, 1, 1, Integer.MAX_VALUE), INDEX, 2);
    refused("copy(1, 1, 1, 1, most)", x -> x.copy(1, 1, 1, 1, Integer.MAX_VALUE), INDEX, 2);
    refused("copy(1, most, 1, most, most)",
        x -> x.copy(1, Integer.MAX_VALUE, 1, Integer.MAX_VALUE, Integer.MAX_VALUE), INDEX, 2);
    refused("copy(1, most, 1, 0, 1)", x -> x.copy(1, Integer.MAX_VALUE, 1, 0, 1), INDEX, 2);
    refused("copy(1, 0, 1, most, 1)", x -> x.copy(1, 0, 1, Integer.MAX_VALUE, 1), INDEX, 2);
    refused("copy(1, 2, 1, 2, least)", x -> x.copy(1, 2, 1, 2, Integer.MIN_VALUE), INDEX, 2);
  }

  private static void counts() {
    CHECKS.under("count() 8: the number of the latest FINDING (0 before any)");
    OwnWeather x = full();
    CHECKS.due("count(8) before any", x.count(8), 0);
    x.lose(3);
    CHECKS.due("NULL", x.count(8), 1);
    x.lay(1, 1, 2, 0);
    CHECKS.due("INDEX", x.count(8), 2);
    x.lay(1, 2, 0, 0);
    CHECKS.due("CAST", x.count(8), 3);
    x.copy(0, 0, 1, 0, 0);
    CHECKS.due("STORE", x.count(8), 4);
    x.sheet(0, 0, -1);
    CHECKS.due("SIZE", x.count(8), 5);
    CHECKS.under("count() 8 stays by other refusals and by what is done");
    x.go(24, 0, 0);
    x.go(0, 0, 0);
    x.sky(0, 5, 0);
    x.get(4, 0, 0);
    x.sheet(0, 0, 61);
    CHECKS.due("after BAD, FULL, NOT", x.count(8), 5);
    x.lay(1, 1, 0, 3);
    x.lose(1);
    x.wipe(0);
    x.digest();
    CHECKS.due("after what is done", x.count(8), 5);
    CHECKS.under("count() 8 is of each object by itself");
    CHECKS.due("of a new one", new OwnWeather().count(8), 0);
    CHECKS.due("NONE is no finding: lightning(0)", new OwnWeather().lightning(0), NONE);
  }
}
