import java.util.ArrayList;
import java.util.Arrays;
import java.util.LinkedHashMap;
import java.util.List;
import java.util.Map;
import java.util.function.Supplier;

/**
 * "Nothing is promised beyond the answers and state changes described above": a question changes nothing at all, and
 * what is told or done changes that part of the object alone that its promise names.
 */
public final class StatesTest {
  /** Some part of what an object holds, told by taking the object apart. */
  private interface Part { void tell(OwnWeather x, List<Long> into); }

  private static final Checks CHECKS = new Checks("states");
  private static final String CALM_EIGHT = "9c;2c;5c;1c;0c;7c;8c;3c";
  private static final Map<String, Part> PARTS = new LinkedHashMap<>();

  public static void main(String[] args) {
    for (int k = 0; k < 2; k++) {
      int text = k;
      PARTS.put("text " + text, (x, into) -> text(x, text, into));
    }
    PARTS.put("goings", StatesTest::goings);
    PARTS.put("seen", StatesTest::seen);
    PARTS.put("fogs", StatesTest::fogs);
    for (int k = 0; k < 4; k++) {
      int sheet = k;
      PARTS.put("sheet " + sheet, (x, into) -> sheet(x, sheet, into));
    }
    PARTS.put("count(8)", (x, into) -> into.add((long) x.count(8)));
    Map<String, long[]> before = parts(Acts::object);
    partsTellWhatIsHeld(before);
    for (Acts.Act act : Acts.ALL) changes(act, before);
    apart(before);
    CHECKS.end();
  }

  // ---- the parts

  private static Map<String, long[]> parts(Supplier<OwnWeather> made) {
    Map<String, long[]> told = new LinkedHashMap<>();
    PARTS.forEach((name, part) -> {
      List<Long> answers = new ArrayList<>();
      part.tell(made.get(), answers);
      told.put(name, answers.stream().mapToLong(v -> v).toArray());
    });
    return told;
  }

  private static void text(OwnWeather x, int text, List<Long> into) {
    int bytes = x.count(2 + text);
    for (int left = bytes; left >= 0; left--) {
      into.add((long) x.fault(text));
      int entries = x.count(text);
      for (int what = 0; what < 2 && entries > 0; what++)
        into.add((long) (text == 0 ? x.person(entries - 1, what) : x.place(entries - 1, what)));
      into.add((long) x.undo(text));
    }
  }

  private static void tellAnew(OwnWeather x) {
    x.wipe(0);
    x.wipe(1);
    Checks.tell(x, 0, CALM_EIGHT);
    Checks.tell(x, 1, Checks.SIX);
  }

  private static void goings(OwnWeather x, List<Long> into) {
    tellAnew(x);
    for (int hour = 0; hour < 24; hour++) for (int p = 0; p < 8; p++) into.add((long) x.where(hour, p));
    for (int left = x.count(4); left >= 0; left--) {
      into.add((long) x.back());
      for (int p = 0; p < 8; p++) into.add((long) x.where(23, p));
    }
  }

  private static void seen(OwnWeather x, List<Long> into) {
    tellAnew(x);
    for (int p = 0; p < 8; p++) into.add((long) x.may(p));
    into.add((long) x.forget(0));
    for (int p = 0; p < 8; p++) into.add((long) x.may(p));
  }

  private static void fogs(OwnWeather x, List<Long> into) {
    tellAnew(x);
    for (int left = x.count(4); left > 0; left--) x.back();
    for (int p = 0; p < 6; p++) Checks.goings(x, 0, p, p, 4, p, 5 - p);
    into.add((long) x.hid());
    into.add((long) x.forget(1));
    into.add((long) x.hid());
  }

  private static void sheet(OwnWeather x, int s, List<Long> into) {
    for (int form = 0; form < 3; form++)
      for (int i = 0; i < 60; i++) into.add((long) x.get(s, form, i));
    into.add((long) x.lose(s));
  }

  // ---- the checks

  /** Parts that told nothing would hold by whatever is done. */
  private static void partsTellWhatIsHeld(Map<String, long[]> before) {
    CHECKS.under("each part is told by what the object holds");
    Map<String, long[]> none = parts(OwnWeather::new);
    before.forEach((name, told) -> {
      if (!name.equals("count(8)")) CHECKS.must(name + " is as of a new object", !Arrays.equals(told, none.get(name)));
    });
  }

  /** The only part that a call may change; of a question there is none. */
  private static String named(Acts.Act act, int[] a) {
    switch (act.name()) {
      case "type": case "wipe": case "undo": return "text " + a[0];
      case "go": case "back": case "read": return "goings";
      case "seen": return "seen";
      case "fog": return "fogs";
      case "forget": return a[0] == 0 ? "seen" : "fogs";
      case "sheet": case "lose": case "lay": return "sheet " + a[0];
      case "copy": return "sheet " + a[2];
      case "write": return "sheet " + a[1];
      default: return "nothing";
    }
  }

  private static void changes(Acts.Act act, Map<String, long[]> before) {
    CHECKS.under(act.name() + " changes what it is told to change, and nothing else");
    for (int[] a : manyArguments(act)) {
      OwnWeather once = Acts.object();
      act.call().on(once, a);
      boolean found = once.count(8) != 0;
      Map<String, long[]> after = parts(() -> {
        OwnWeather x = Acts.object();
        act.call().on(x, a);
        return x;
      });
      before.forEach((name, told) -> {
        if (name.equals(named(act, a)) || found && name.equals("count(8)")) return;
        CHECKS.due(act.told(a) + " changed " + name + ", first at", Arrays.mismatch(told, after.get(name)), -1);
      });
    }
  }

  /** As usual, and with each argument at its least and its most. */
  private static List<int[]> manyArguments(Acts.Act act) {
    List<int[]> all = new ArrayList<>();
    all.add(act.usual());
    for (int k = 0; k < act.spans().length; k++)
      for (int v : new int[] {act.spans()[k].least(), act.spans()[k].most()}) {
        int[] a = act.usual();
        a[k] = v;
        all.add(a);
      }
    return all;
  }

  private static void apart(Map<String, long[]> before) {
    CHECKS.under("an object is changed by no call of another");
    Map<String, long[]> after = parts(() -> {
      OwnWeather x = Acts.object(), other = Acts.object();
      for (Acts.Act act : Acts.ALL) act.call().on(other, act.usual());
      return x;
    });
    before.forEach((name, told) -> CHECKS.must(name, Arrays.equals(told, after.get(name))));
  }
}
