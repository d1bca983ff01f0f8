/** The calls of the face, each with what its arguments may be in an object of 7 persons, 5 places and four sheets. */
final class Acts {
  interface Call { long on(OwnWeather x, int[] a); }

  /** What is answered, and what count(8) tells then (0: as before). */
  record Refusal(long answer, int finding) {}

  /** An argument: its least, its most, one that is usual, and how less and more are refused (null: they are not). */
  record Span(int least, int most, int usual, Refusal below, Refusal above) {}

  record Act(String name, Call call, Span... spans) {
    int[] usual() {
      int[] a = new int[spans.length];
      for (int k = 0; k < a.length; k++) a[k] = spans[k].usual();
      return a;
    }

    String told(int[] a) {
      StringBuilder s = new StringBuilder(name).append('(');
      for (int k = 0; k < a.length; k++) s.append(k == 0 ? "" : ", ").append(a[k]);
      return s.append(')').toString();
    }
  }

  static final int PERSONS = 7, PLACES = 5;
  static final int[] SHEET_SIZES = {60, 7, 4, 5};
  static final int FORM = 1;

  private static final Refusal BAD = new Refusal(Checks.BAD, 0), BAD_LONG = new Refusal(Checks.BAD_LONG, 0);
  private static final Refusal BAD_GET = new Refusal(Checks.LEAST, 0), INDEX_GET = new Refusal(Checks.LEAST, 2);
  private static final Refusal INDEX = new Refusal(Checks.INDEX, 2), SIZE = new Refusal(Checks.SIZE, 5);

  private Acts() {}

  private static Span span(int least, int most, int usual) { return new Span(least, most, usual, BAD, BAD); }
  private static Span at(int least, int most, int usual) { return new Span(least, most, usual, INDEX, INDEX); }

  private static Span refusedAs(Refusal r, Span s) { return new Span(s.least(), s.most(), s.usual(), r, r); }

  private static Span any(int usual) { return new Span(Integer.MIN_VALUE, Integer.MAX_VALUE, usual, null, null); }

  private static final Span TEXT = span(0, 1, 1), HOUR = span(0, 23, 4), WHAT = span(0, 1, 1);
  private static final Span PERSON = span(0, PERSONS - 1, 3), PLACE = span(0, PLACES - 1, 2);
  private static final Span ANY_PERSON = span(0, 7, 3), ANY_PLACE = span(0, 5, 2);
  private static final Span BRIGHT = span(0, 9, 5), CHANCE = span(0, 16, 4), SHEET = span(0, 3, 1);

  static final Act[] ALL = {
    new Act("type", (x, a) -> x.type(a[0], a[1]), TEXT, span(0, 255, 59)),
    new Act("wipe", (x, a) -> x.wipe(a[0]), TEXT),
    new Act("undo", (x, a) -> x.undo(a[0]), TEXT),
    new Act("fault", (x, a) -> x.fault(a[0]), TEXT),
    new Act("person", (x, a) -> x.person(a[0], a[1]), PERSON, WHAT),
    new Act("place", (x, a) -> x.place(a[0], a[1]), PLACE, WHAT),
    new Act("go", (x, a) -> x.go(a[0], a[1], a[2]), HOUR, ANY_PERSON, ANY_PLACE),
    new Act("back", (x, a) -> x.back()),
    new Act("read", (x, a) -> x.read(a[0]), SHEET),
    new Act("where", (x, a) -> x.where(a[0], a[1]), HOUR, PERSON),
    new Act("bright", (x, a) -> x.bright(a[0], a[1]), HOUR, PERSON),
    new Act("crowd", (x, a) -> x.crowd(a[0], a[1]), HOUR, PLACE),
    new Act("sky", (x, a) -> x.sky(a[0], a[1], a[2]),
        refusedAs(BAD_LONG, HOUR), refusedAs(BAD_LONG, PLACE), refusedAs(BAD_LONG, WHAT)),
    new Act("met", (x, a) -> x.met(a[0]), HOUR),
    new Act("spoilt", (x, a) -> x.spoilt(a[0]), PLACE),
    new Act("lightning", (x, a) -> x.lightning(a[0]), WHAT),
    new Act("settles", (x, a) -> x.settles()),
    new Act("send", (x, a) -> x.send(a[0], a[1], a[2]), PLACE, HOUR, WHAT),
    new Act("keep", (x, a) -> x.keep(a[0], a[1], a[2], a[3]), PLACE, HOUR, BRIGHT, WHAT),
    new Act("row", (x, a) -> x.row(a[0], a[1], a[2]), HOUR, PLACE, span(-1, 7, 0)),
    new Act("seen", (x, a) -> x.seen(a[0], a[1], a[2]), HOUR, ANY_PERSON, BRIGHT),
    new Act("fog", (x, a) -> x.fog(a[0], a[1], a[2]), HOUR, ANY_PLACE, WHAT),
    new Act("forget", (x, a) -> x.forget(a[0]), WHAT),
    new Act("may", (x, a) -> x.may(a[0]), PERSON),
    new Act("hid", (x, a) -> x.hid()),
    new Act("news", (x, a) -> x.news(a[0], a[1], a[2], a[3]),
        refusedAs(BAD_LONG, CHANCE), refusedAs(BAD_LONG, PLACE), refusedAs(BAD_LONG, HOUR), refusedAs(BAD_LONG, WHAT)),
    new Act("roof", (x, a) -> x.roof(a[0], a[1], a[2]), CHANCE, PLACE, HOUR),
    new Act("day", (x, a) -> x.day(a[0], a[1]), any(7), span(-1, PERSONS - 1, 0)),
    new Act("sheet", (x, a) -> x.sheet(a[0], a[1], a[2]), SHEET, span(0, 2, 1), new Span(0, 60, 6, SIZE, BAD)),
    new Act("lose", (x, a) -> x.lose(a[0]), SHEET),
    new Act("lay", (x, a) -> x.lay(a[0], a[1], a[2], a[3]), SHEET, span(0, 2, FORM), at(0, 6, 3), any(8)),
    new Act("get", (x, a) -> x.get(a[0], a[1], a[2]),
        refusedAs(BAD_GET, SHEET), refusedAs(BAD_GET, span(0, 2, FORM)), refusedAs(INDEX_GET, span(0, 6, 3))),
    new Act("copy", (x, a) -> x.copy(a[0], a[1], a[2], a[3], a[4]),
        SHEET, at(0, 5, 2), span(0, 3, 3), at(0, 3, 1), at(0, 4, 2)),
    new Act("write", (x, a) -> x.write(a[0], a[1]), HOUR, SHEET),
    new Act("count", (x, a) -> x.count(a[0]), span(0, 8, 4)),
    new Act("digest", (x, a) -> x.digest())};

  /** The object that the spans are told of: nothing in it is full, and no sheet is lost. */
  static OwnWeather object() {
    OwnWeather x = Checks.told("9o;2h;5c;1o;0o;7o;8h", "47;02;79;36;55");
    Checks.goings(x, 0, 3, 1, 0, 4, 2, 3, 3, 2, 3, 3, 0, 2, 5, 4, 1, 7, 5);
    x.seen(1, 2, 5);
    x.seen(0, 0, 9);
    x.fog(0, 0, 1);
    x.fog(4, 4, 0);
    for (int s = 0; s < SHEET_SIZES.length; s++) {
      x.sheet(s, FORM, SHEET_SIZES[s]);
      for (int i = 0; i < 4; i++) x.lay(s, FORM, i, 5 * s + i);
    }
    x.lay(0, FORM, 59, 77);
    return x;
  }

  /** All that can be seen of such an object, but for count(8); it is taken apart by this. */
  static long[] portrait(OwnWeather x) {
    java.util.List<Long> all = new java.util.ArrayList<>();
    all.add(x.digest());
    for (int h : new int[] {2, 3, 4, 11, 22})
      for (int p = 0; p < PERSONS; p++) {
        all.add((long) x.where(h, p));
        all.add((long) x.bright(h, p));
      }
    for (int p = 0; p < PERSONS; p++) for (int what = 0; what < 2; what++) all.add((long) x.person(p, what));
    for (int q = 0; q < PLACES; q++) for (int what = 0; what < 2; what++) all.add((long) x.place(q, what));
    for (int s = 0; s < SHEET_SIZES.length; s++)
      for (int i = 0; i < SHEET_SIZES[s]; i++) all.add((long) x.get(s, FORM, i));
    for (int s = 0; s < SHEET_SIZES.length; s++) all.add((long) x.lose(s));
    for (int k = 0; k <= 7; k++) {
      all.add((long) x.back());
      for (int p = 3; p < 6; p++) for (int h = 0; h < 5; h++) all.add((long) x.where(h, p));
    }
    for (int what = 0; what < 2; what++) all.add((long) x.forget(what));
    for (int text = 0; text < 2; text++)
      for (int k = 0; k < 21; k++) {
        all.add((long) x.fault(text));
        all.add((long) x.undo(text));
      }
    return all.stream().mapToLong(v -> v).toArray();
  }
}
