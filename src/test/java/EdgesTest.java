import java.util.Arrays;

/** Of each argument of each call: what is too small, too large, just not; and a refused call changes nothing. */
public final class EdgesTest {
  private static final Checks CHECKS = new Checks("edges");
  private static final int BEFORE = 4;

  public static void main(String[] args) {
    long[] untouched = Acts.portrait(object());
    CHECKS.under("the object that the edges are told of");
    CHECKS.must("it is the same each time", Arrays.equals(untouched, Acts.portrait(object())));
    for (Acts.Act act : Acts.ALL) {
      CHECKS.under(act.name() + " as usual");
      accepted(act, act.usual());
      for (int k = 0; k < act.spans().length; k++) argument(act, k, untouched);
    }
    newObject();
    anyArguments();
    CHECKS.end();
  }

  /** With a finding that none of the edges makes (STORE), so that one made by a refused call is seen. */
  private static OwnWeather object() {
    OwnWeather x = Acts.object();
    x.lose(3);
    x.sheet(3, 2, 5);
    x.copy(0, 0, 3, 0, 1);
    x.sheet(3, Acts.FORM, 5);
    for (int i = 0; i < 4; i++) x.lay(3, Acts.FORM, i, 15 + i);
    return x;
  }

  private static void argument(Acts.Act act, int k, long[] untouched) {
    Acts.Span span = act.spans()[k];
    CHECKS.under(act.name() + ", argument " + k + ", least and most");
    accepted(act, with(act, k, span.least()));
    accepted(act, with(act, k, span.most()));
    if (span.below() != null) {
      CHECKS.under(act.name() + ", argument " + k + ", too small");
      refused(act, with(act, k, span.least() - 1), span.below(), untouched);
      refused(act, with(act, k, Integer.MIN_VALUE), span.below(), untouched);
    }
    if (span.above() != null) {
      CHECKS.under(act.name() + ", argument " + k + ", too large");
      refused(act, with(act, k, span.most() + 1), span.above(), untouched);
      refused(act, with(act, k, Integer.MAX_VALUE), span.above(), untouched);
    }
  }

  private static int[] with(Acts.Act act, int k, int value) {
    int[] a = act.usual();
    a[k] = value;
    return a;
  }

  /** NOT is no refusal of an argument here: nobody may be where it is asked. Nor is CAST, by another form. */
  private static void accepted(Acts.Act act, int[] a) {
    OwnWeather x = object();
    long got = act.call().on(x, a);
    CHECKS.must(act.told(a) + " was refused: " + got, got != Checks.BAD && got != Checks.BAD_LONG && got != Checks.FULL
        && got != Checks.NULL && got != Checks.INDEX && got != Checks.SIZE);
    if (act.name().equals("get")) CHECKS.must(act.told(a) + " is no bad one", got != Checks.LEAST || x.count(8) == 3);
    boolean isLaid = got == 1 || got == Checks.CAST && act.name().equals("lay") && a[1] != Acts.FORM;
    if (act.name().equals("lay")) CHECKS.must(act.told(a) + " is done or CAST", isLaid);
  }

  private static void refused(Acts.Act act, int[] a, Acts.Refusal due, long[] untouched) {
    OwnWeather x = object();
    CHECKS.due(act.told(a), act.call().on(x, a), due.answer());
    CHECKS.due("count(8) after " + act.told(a), x.count(8), due.finding() == 0 ? BEFORE : due.finding());
    long[] after = Acts.portrait(x);
    CHECKS.due(act.told(a) + " changed what is seen, first at", Arrays.mismatch(untouched, after), -1);
  }

  /** Where there is nobody and no place, no number is that of one. */
  private static void newObject() {
    OwnWeather x = new OwnWeather();
    for (int v : new int[] {Integer.MIN_VALUE, -1, 0, 1, 7, 8, Integer.MAX_VALUE}) {
      CHECKS.under("a new object, person or place " + v);
      CHECKS.due("person", x.person(v, 0), Checks.BAD);
      CHECKS.due("place", x.place(v, 0), Checks.BAD);
      CHECKS.due("where", x.where(0, v), Checks.BAD);
      CHECKS.due("bright", x.bright(0, v), Checks.BAD);
      CHECKS.due("crowd", x.crowd(0, v), Checks.BAD);
      CHECKS.due("sky", x.sky(0, v, 0), Checks.BAD_LONG);
      CHECKS.due("spoilt", x.spoilt(v), Checks.BAD);
      CHECKS.due("send", x.send(v, 0, 0), Checks.BAD);
      CHECKS.due("keep", x.keep(v, 0, 0, 0), Checks.BAD);
      CHECKS.due("row", x.row(0, v, Checks.NONE), Checks.BAD);
      CHECKS.due("may", x.may(v), Checks.BAD);
      CHECKS.due("news", x.news(0, v, 0, 0), Checks.BAD_LONG);
      CHECKS.due("roof", x.roof(0, v, 0), Checks.BAD);
      CHECKS.due("day", x.day(0, v), v == Checks.NONE ? 0 : Checks.BAD);
    }
  }

  /** No arguments at all, in no state, make the machine throw: what it throws would end this test. */
  private static void anyArguments() {
    int[] values = {Integer.MIN_VALUE, -2, -1, 0, 1, 2, 6, 23, 60, Integer.MAX_VALUE};
    for (Acts.Act act : Acts.ALL) {
      CHECKS.under(act.name() + " of any arguments");
      int[] a = new int[act.spans().length];
      int cases = 1, calls = 0;
      for (int k = 0; k < a.length; k++) cases *= values.length;
      OwnWeather x = Acts.object(), empty = new OwnWeather();
      for (int n = 0; n < cases; n++, calls++) {
        if (calls == 400) {
          x = Acts.object();
          empty = new OwnWeather();
          calls = 0;
        }
        for (int k = 0, rest = n; k < a.length; k++, rest /= values.length) a[k] = values[rest % values.length];
        act.call().on(x, a);
        act.call().on(empty, a);
      }
      CHECKS.must("count(8) is a finding's number", x.count(8) >= 0 && x.count(8) <= 5);
    }
  }
}
