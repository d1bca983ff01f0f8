/** What the tests of the boundaries share: a heading, checks under it, and short ways to tell an object something. */
final class Checks {
  static final int NONE = -1, BAD = -2, NOT = -3, FULL = -4;
  static final int NULL = -11, INDEX = -12, CAST = -13, STORE = -14, SIZE = -15;
  static final int LEAST = Integer.MIN_VALUE;
  static final long BAD_LONG = Long.MIN_VALUE + 2, NOT_LONG = Long.MIN_VALUE + 3;
  static final String EIGHT = "1o;1o;1o;1o;1o;1o;1o;1o", SIX = "09;09;09;09;09;09";

  private final String name;
  private String heading = "";
  private int headings = 0, made = 0, madeBefore = 0, wrong = 0;

  Checks(String name) { this.name = name; }

  /** Begins a sentence of the document, or a case; each must have a check of its own. */
  void under(String next) {
    endHeading();
    heading = next;
    headings++;
  }

  private void endHeading() {
    if (headings > 0 && made == madeBefore) tellWrong("no check at all");
    madeBefore = made;
  }

  void due(String what, long got, long want) {
    made++;
    if (got != want) tellWrong(what + " answered " + got + ", due is " + want);
  }

  void must(String what, boolean holds) {
    made++;
    if (!holds) tellWrong(what);
  }

  private void tellWrong(String what) {
    wrong++;
    System.out.println("[" + heading + "] " + what);
  }

  void end() {
    endHeading();
    String well = name + ": " + headings + " hold in " + made + " checks";
    System.out.println(wrong == 0 ? well : wrong + " answers are not as due");
    if (wrong != 0) System.exit(1);
  }

  static OwnWeather told(String people, String places) {
    OwnWeather x = new OwnWeather();
    tell(x, 0, people);
    tell(x, 1, places);
    return x;
  }

  static void tell(OwnWeather x, int text, String bytes) {
    for (char b : bytes.toCharArray()) x.type(text, b);
  }

  static void goings(OwnWeather x, int... triples) {
    for (int i = 0; i + 2 < triples.length; i += 3) x.go(triples[i], triples[i + 1], triples[i + 2]);
  }

  /** A sheet of a form with just these items. */
  static void items(OwnWeather x, int s, int form, int... values) {
    x.sheet(s, form, values.length);
    for (int i = 0; i < values.length; i++) x.lay(s, form, i, values[i]);
  }

  static int faultOf(int text, String bytes) {
    OwnWeather x = new OwnWeather();
    tell(x, text, bytes);
    return x.fault(text);
  }
}
