/**
 * The document's sentences on texts, hours and the weather that name a boundary case, each with a test of its own;
 * PlansTest has those on plans, what was seen, news, days and sheets.
 */
public final class SentencesTest {
  private static final Checks CHECKS = new Checks("sentences");
  private static final int NONE = Checks.NONE, BAD = Checks.BAD, NOT = Checks.NOT, FULL = Checks.FULL;
  private static final long NOT_LONG = Checks.NOT_LONG;
  private static final int ALL_HOURS = (1 << 24) - 1;

  public static void main(String[] args) {
    callsOfAnObject();
    peopleText();
    peopleFigures();
    placesText();
    faults();
    faultyIsEmpty();
    faultyPlaces();
    hoursAndGoings();
    whichGoingCounts();
    nowhere();
    readingGoings();
    brighterAndLess();
    lightningStrikes();
    skies();
    tasks();
    hourQuestions();
    settling();
    CHECKS.end();
  }

  private static void callsOfAnObject() {
    CHECKS.under("An object is used for at most 512 calls after it has been made");
    OwnWeather x = Checks.told("9o;2h", "09");
    for (int k = 0; k < 504; k++) x.day(k, 0);
    CHECKS.due("the 512th call", x.bright(1, 0), 8);
    CHECKS.under("Nobody; all SHEETS are LOST");
    x = new OwnWeather();
    for (int what = 0; what <= 8; what++) CHECKS.due("count(" + what + ")", x.count(what), 0);
    for (int s = 0; s < 4; s++) CHECKS.due("read(" + s + ")", x.read(s), Checks.NULL);
    CHECKS.due("where(0, 0)", x.where(0, 0), BAD);
  }

  // ---- texts

  private static void peopleText() {
    CHECKS.under("PEOPLE are a text of up to 23 bytes (text 0)");
    OwnWeather x = new OwnWeather();
    for (int k = 1; k <= 23; k++) CHECKS.due("byte " + k, x.type(0, Checks.EIGHT.charAt(k - 1)), k);
    CHECKS.due("byte 24", x.type(0, ';'), FULL);
    CHECKS.due("count(2)", x.count(2), 23);
    CHECKS.under("8 at most (0 on)");
    CHECKS.due("count(0)", x.count(0), 8);
    CHECKS.due("person(0, 0)", x.person(0, 0), 1);
    CHECKS.due("person(7, 0)", x.person(7, 0), 1);
    CHECKS.due("person(8, 0)", x.person(8, 0), BAD);
    CHECKS.under("A text that is full has room again for what is undone, and for all if it is wiped");
    CHECKS.due("undo(0)", x.undo(0), 22);
    CHECKS.due("type(0, 'c')", x.type(0, 'c'), 23);
    CHECKS.due("person(7, 1)", x.person(7, 1), 2);
    CHECKS.due("byte 24", x.type(0, 'c'), FULL);
    CHECKS.due("wipe(0)", x.wipe(0), 23);
    CHECKS.due("wipe(0) of an empty one", x.wipe(0), 0);
    CHECKS.due("type(0, '5')", x.type(0, '5'), 1);
    CHECKS.under("A text is empty: what it told is gone, though it was asked before");
    x = Checks.told("0o;1o", "09");
    CHECKS.due("where(0, 1)", x.where(0, 1), 0);
    CHECKS.due("lightning(0)", x.lightning(0), 0);
    CHECKS.due("wipe(1)", x.wipe(1), 2);
    CHECKS.due("where(0, 1)", x.where(0, 1), NONE);
    CHECKS.due("lightning(0)", x.lightning(0), NONE);
    CHECKS.due("fault(1)", x.fault(1), NONE);
    CHECKS.due("count(1)", x.count(1), 0);
    CHECKS.due("count(2): the other text stays", x.count(2), 5);
    CHECKS.under("The last byte of a text is undone: what it told is gone, though it was asked before");
    Checks.tell(x, 1, "09;09");
    x.go(0, 0, 1);
    CHECKS.due("where(0, 0)", x.where(0, 0), 1);
    for (int k = 4; k >= 2; k--) CHECKS.due("undo(1)", x.undo(1), k);
    CHECKS.due("where(0, 0)", x.where(0, 0), NONE);
    CHECKS.due("where(0, 1)", x.where(0, 1), 0);
    CHECKS.under("A full text may be of any bytes");
    x = new OwnWeather();
    for (int k = 0; k < 23; k++) CHECKS.due("byte " + k, x.type(0, 255 * (k % 2)), k + 1);
    CHECKS.due("byte 24", x.type(0, 0), FULL);
    CHECKS.due("fault(0)", x.fault(0), 0);
    CHECKS.under("Each text is full by itself");
    CHECKS.due("type(1, 0)", x.type(1, 0), 1);
    x = Checks.told("", Checks.SIX);
    CHECKS.due("type(0, 0)", x.type(0, 0), 1);
    CHECKS.due("type(1, 0)", x.type(1, 0), FULL);
  }

  private static void peopleFigures() {
    CHECKS.under("a figure, how BRIGHT one is in HOUR 0 (0 to 9; storm to sun)");
    for (int v = 0; v <= 9; v++) CHECKS.due(v + "o", Checks.told(v + "o", "").bright(0, 0), v);
    CHECKS.due("/o", Checks.faultOf(0, "/o"), 0);
    CHECKS.due(":o", Checks.faultOf(0, ":o"), 0);
    CHECKS.due("byte 0", Checks.faultOf(0, "" + (char) 0 + "o"), 0);
    CHECKS.due("a figure and 128", Checks.faultOf(0, (char) ('5' + 128) + "o"), 0);
    CHECKS.due("byte 255", Checks.faultOf(0, (char) 255 + "o"), 0);
    CHECKS.under("and a letter: o (any), h (hides it ..), c (dead calm ..)");
    for (int b = 0; b < 256; b++) {
      boolean isKind = b == 'o' || b == 'h' || b == 'c';
      CHECKS.due("5 and byte " + b, Checks.faultOf(0, "5" + (char) b), isKind ? NONE : 1);
    }
    OwnWeather x = Checks.told("5o;5h;5c", "");
    for (int p = 0; p < 3; p++) CHECKS.due("person(" + p + ", 1)", x.person(p, 1), p);
    CHECKS.under("with ; between them");
    for (int b = 0; b < 256; b++)
      CHECKS.due("5o, byte " + b + ", 5o", Checks.faultOf(0, "5o" + (char) b + "5o"), b == ';' ? NONE : 2);
    CHECKS.due("; ahead", Checks.faultOf(0, ";5o"), 0);
    CHECKS.due("; behind", Checks.faultOf(0, "5o;"), 3);
    CHECKS.due("two of them", Checks.faultOf(0, "5o;;5o"), 3);
    CHECKS.under("c (dead calm: it never changes)");
    x = Checks.told("5c;9o;9o;0c;1c", "09;09");
    Checks.goings(x, 0, 3, 1, 0, 4, 1);
    for (int h = 0; h < 24; h++) {
      CHECKS.due("bright(" + h + ", 0) among brighter ones", x.bright(h, 0), 5);
      CHECKS.due("bright(" + h + ", 4) under lightning", x.bright(h, 4), 1);
    }
  }

  private static void placesText() {
    CHECKS.under("PLACES are a text of up to 17 bytes (text 1)");
    OwnWeather x = new OwnWeather();
    for (int k = 1; k <= 17; k++) CHECKS.due("byte " + k, x.type(1, Checks.SIX.charAt(k - 1)), k);
    CHECKS.due("byte 18", x.type(1, ';'), FULL);
    CHECKS.due("count(3)", x.count(3), 17);
    CHECKS.under("6 at most (0 on)");
    CHECKS.due("count(1)", x.count(1), 6);
    CHECKS.due("place(0, 1)", x.place(0, 1), 9);
    CHECKS.due("place(5, 1)", x.place(5, 1), 9);
    CHECKS.due("place(6, 1)", x.place(6, 1), BAD);
    CHECKS.under("two figures, LOW and HIGH (no less than LOW)");
    for (int low = 0; low <= 9; low++)
      for (int high = 0; high <= 9; high++)
        CHECKS.due("" + low + high, Checks.faultOf(1, "" + low + high), high < low ? 1 : NONE);
    x = Checks.told("", "09;55;00;99");
    int[][] due = {{0, 9}, {5, 5}, {0, 0}, {9, 9}};
    for (int q = 0; q < 4; q++) for (int w = 0; w < 2; w++) CHECKS.due("place", x.place(q, w), due[q][w]);
    for (int b = 0; b < 256; b++) {
      boolean isFigure = b >= '0' && b <= '9';
      CHECKS.due("byte " + b + " and 9", Checks.faultOf(1, (char) b + "9"), isFigure ? NONE : 0);
      CHECKS.due("0 and byte " + b, Checks.faultOf(1, "0" + (char) b), isFigure ? NONE : 1);
      CHECKS.due("09, byte " + b + ", 09", Checks.faultOf(1, "09" + (char) b + "09"), b == ';' ? NONE : 2);
    }
  }

  private static void faults() {
    CHECKS.under("The FAULT of a text is the place of the first byte with which it cannot go on");
    CHECKS.due("two faults", Checks.faultOf(0, "5o;x;y"), 3);
    CHECKS.due("a later one is well", Checks.faultOf(0, "55;5o"), 1);
    CHECKS.due("in the last of eight", Checks.faultOf(0, "1o;1o;1o;1o;1o;1o;1o;1x"), 22);
    CHECKS.due("in the first of eight", Checks.faultOf(0, "xo;1o;1o;1o;1o;1o;1o;1o"), 0);
    CHECKS.due("in the last of six", Checks.faultOf(1, "09;09;09;09;09;0x"), 16);
    CHECKS.under("(an empty one is well ..)");
    CHECKS.due("fault(0)", new OwnWeather().fault(0), NONE);
    CHECKS.due("fault(1)", new OwnWeather().fault(1), NONE);
    OwnWeather x = Checks.told("x", "x");
    CHECKS.due("fault(0) of x", x.fault(0), 0);
    x.undo(0);
    x.wipe(1);
    CHECKS.due("fault(0) of one that is undone", x.fault(0), NONE);
    CHECKS.due("fault(1) of one that is wiped", x.fault(1), NONE);
    CHECKS.under("(.. of one that is not ended, its end)");
    x = new OwnWeather();
    OwnWeather y = new OwnWeather();
    for (int k = 1; k <= 23; k++) {
      x.type(0, Checks.EIGHT.charAt(k - 1));
      CHECKS.due(k + " bytes of eight", x.fault(0), k % 3 == 2 ? NONE : k);
      if (k > 17) continue;
      y.type(1, Checks.SIX.charAt(k - 1));
      CHECKS.due(k + " bytes of six", y.fault(1), k % 3 == 2 ? NONE : k);
    }
    CHECKS.under("here also of HIGH less than LOW");
    CHECKS.due("10: at HIGH", Checks.faultOf(1, "10"), 1);
    CHECKS.due("in the last of six", Checks.faultOf(1, "09;09;09;09;09;98"), 16);
    CHECKS.due("and not ended", Checks.faultOf(1, "09;54;"), 4);
    CHECKS.under("or of the first byte of one too many: there is no room for one");
    x = Checks.told(Checks.EIGHT + ";1o", Checks.SIX + ";09");
    CHECKS.due("fault(0)", x.fault(0), NONE);
    CHECKS.due("fault(1)", x.fault(1), NONE);
    CHECKS.due("count(0)", x.count(0), 8);
    CHECKS.due("count(1)", x.count(1), 6);
  }

  private static void faultyIsEmpty() {
    CHECKS.under("With a FAULT a text is as if it was empty: PEOPLE");
    OwnWeather x = Checks.told("5o;7h;", "09;00");
    x.go(0, 0, 0);
    x.fog(0, 0, 1);
    x.sheet(0, 0, 4);
    CHECKS.due("count(0)", x.count(0), 0);
    CHECKS.due("count(7)", x.count(7), 0);
    CHECKS.due("person(0, 0)", x.person(0, 0), BAD);
    CHECKS.due("where(0, 0)", x.where(0, 0), BAD);
    CHECKS.due("bright(0, 0)", x.bright(0, 0), BAD);
    CHECKS.due("crowd(0, 0)", x.crowd(0, 0), 0);
    CHECKS.due("sky(0, 0, 0)", x.sky(0, 0, 0), NOT_LONG);
    CHECKS.due("met(0)", x.met(0), 0);
    CHECKS.due("spoilt(0)", x.spoilt(0), 0);
    CHECKS.due("lightning(0)", x.lightning(0), NONE);
    CHECKS.due("settles()", x.settles(), 0);
    CHECKS.due("send(0, 0, 0)", x.send(0, 0, 0), NONE);
    CHECKS.due("send(0, 0, 1)", x.send(0, 0, 1), NONE);
    CHECKS.due("keep(0, 0, 0, 0)", x.keep(0, 0, 0, 0), NONE);
    CHECKS.due("row(0, 0, NONE)", x.row(0, 0, NONE), 0);
    CHECKS.due("row(0, 0, 0)", x.row(0, 0, 0), NONE);
    CHECKS.due("may(0)", x.may(0), BAD);
    CHECKS.due("hid()", x.hid(), 0);
    CHECKS.due("news(8, 0, 0, 0)", x.news(8, 0, 0, 0), 0);
    CHECKS.due("news(8, 0, 0, 1)", x.news(8, 0, 0, 1), 1);
    CHECKS.due("roof(8, 0, 0)", x.roof(8, 0, 0), NONE);
    CHECKS.due("day(7, 0)", x.day(7, 0), BAD);
    CHECKS.due("day(7, NONE)", x.day(7, NONE), 0);
    CHECKS.due("write(0, 0)", x.write(0, 0), 0);
    CHECKS.under("but its bytes are there, and what was told besides counts again if it is mended");
    CHECKS.due("count(2)", x.count(2), 6);
    CHECKS.due("count(4)", x.count(4), 1);
    CHECKS.due("undo(0)", x.undo(0), 5);
    CHECKS.due("count(7)", x.count(7), 12);
    CHECKS.due("hid()", x.hid(), 3);
  }

  private static void faultyPlaces() {
    CHECKS.under("With a FAULT a text is as if it was empty: PLACES");
    OwnWeather x = Checks.told("1o;0h;9o", "09;0");
    x.go(0, 2, 1);
    x.fog(0, 0, 1);
    CHECKS.due("count(1)", x.count(1), 0);
    CHECKS.due("place(0, 0)", x.place(0, 0), BAD);
    CHECKS.due("where(0, 0)", x.where(0, 0), NONE);
    CHECKS.due("where(0, 2)", x.where(0, 2), NONE);
    CHECKS.due("crowd(0, 0)", x.crowd(0, 0), BAD);
    CHECKS.due("met(0)", x.met(0), 0);
    CHECKS.due("spoilt(0)", x.spoilt(0), BAD);
    CHECKS.due("lightning(0)", x.lightning(0), NONE);
    CHECKS.due("lightning(1)", x.lightning(1), NONE);
    CHECKS.due("settles()", x.settles(), 0);
    CHECKS.due("bright(23, 0)", x.bright(23, 0), 1);
    CHECKS.due("send(0, 0, 0)", x.send(0, 0, 0), BAD);
    CHECKS.due("keep(0, 0, 0, 0)", x.keep(0, 0, 0, 0), BAD);
    CHECKS.due("row(0, 0, 0)", x.row(0, 0, 0), BAD);
    CHECKS.due("hid()", x.hid(), 0);
    CHECKS.due("roof(0, 0, 0)", x.roof(0, 0, 0), BAD);
    CHECKS.due("day(7, 0)", x.day(7, 0), 1);
    CHECKS.due("day(7, NONE)", x.day(7, NONE), 0);
    CHECKS.under("and the places are there again if it is mended");
    x.type(1, '9');
    CHECKS.due("where(0, 2)", x.where(0, 2), 1);
    CHECKS.due("lightning(0)", x.lightning(0), 0);
    CHECKS.due("hid()", x.hid(), 3);
  }

  // ---- hours and goings

  private static void hoursAndGoings() {
    CHECKS.under("HOURS are 0 to 23");
    OwnWeather x = Checks.told("5o", "09;09");
    CHECKS.due("where(0, 0)", x.where(0, 0), 0);
    CHECKS.due("where(23, 0)", x.where(23, 0), 0);
    CHECKS.due("where(24, 0)", x.where(24, 0), BAD);
    CHECKS.due("where(-1, 0)", x.where(-1, 0), BAD);
    CHECKS.due("go(23, 0, 1)", x.go(23, 0, 1), 1);
    CHECKS.due("where(22, 0)", x.where(22, 0), 0);
    CHECKS.due("where(23, 0)", x.where(23, 0), 1);
    CHECKS.due("go(24, 0, 1)", x.go(24, 0, 1), BAD);
    CHECKS.under("GOINGS, 20 at most (0 on)");
    for (int k = 2; k <= 20; k++) CHECKS.due("going " + k, x.go(23, 0, k % 2), k);
    CHECKS.due("where(23, 0): the 20th counts", x.where(23, 0), 0);
    CHECKS.due("the 21st", x.go(23, 0, 1), FULL);
    CHECKS.due("where(23, 0): the 21st does not", x.where(23, 0), 0);
    CHECKS.due("back()", x.back(), 19);
    CHECKS.due("where(23, 0): the 19th", x.where(23, 0), 1);
    CHECKS.due("the 20th once more", x.go(23, 0, 0), 20);
    for (int k = 19; k >= 0; k--) CHECKS.due("back()", x.back(), k);
    CHECKS.due("back() of none", x.back(), NOT);
    CHECKS.under("from an HOUR on a PERSON (0 to 7) is at a PLACE (0 to 5), whether there is one or not");
    x = new OwnWeather();
    CHECKS.due("go(0, 7, 5)", x.go(0, 7, 5), 1);
    CHECKS.due("go(0, 8, 5)", x.go(0, 8, 5), BAD);
    CHECKS.due("go(0, 7, 6)", x.go(0, 7, 6), BAD);
    Checks.tell(x, 0, Checks.EIGHT);
    Checks.tell(x, 1, Checks.SIX);
    CHECKS.due("where(0, 7): now there is", x.where(0, 7), 5);
    CHECKS.due("crowd(23, 5)", x.crowd(23, 5), 128);
  }

  private static void whichGoingCounts() {
    CHECKS.under("till it goes again");
    OwnWeather x = Checks.told("5o;6o", "09;09;09");
    Checks.goings(x, 3, 0, 1, 7, 0, 2);
    int[][] due = {{2, 0}, {3, 1}, {6, 1}, {7, 2}, {23, 2}};
    for (int[] d : due) CHECKS.due("where(" + d[0] + ", 0)", x.where(d[0], 0), d[1]);
    CHECKS.due("where(23, 1): of each by itself", x.where(23, 1), 0);
    CHECKS.under("of all of HOURS up to one that of the latest HOUR counts, though told first");
    x = Checks.told("5o", "09;09;09");
    Checks.goings(x, 9, 0, 2, 4, 0, 1);
    CHECKS.due("where(8, 0)", x.where(8, 0), 1);
    CHECKS.due("where(9, 0)", x.where(9, 0), 2);
    CHECKS.under("of like ones the last told");
    Checks.goings(x, 9, 0, 1, 9, 0, 0);
    CHECKS.due("where(9, 0)", x.where(9, 0), 0);
    x.back();
    CHECKS.due("where(9, 0)", x.where(9, 0), 1);
    x.back();
    CHECKS.due("where(9, 0)", x.where(9, 0), 2);
    CHECKS.under("Else it is at PLACE 0");
    x = Checks.told("5o", "09;09");
    CHECKS.due("where(0, 0)", x.where(0, 0), 0);
    x.go(0, 0, 1);
    CHECKS.due("where(0, 0)", x.where(0, 0), 1);
    x.go(0, 0, 0);
    CHECKS.due("where(0, 0): it goes to 0", x.where(0, 0), 0);
  }

  private static void nowhere() {
    CHECKS.under("Where there is no such PLACE it is nowhere");
    OwnWeather x = Checks.told("0o;1o;9o", "09;09");
    Checks.goings(x, 0, 0, 2, 0, 1, 2, 2, 1, 5, 3, 0, 1);
    CHECKS.due("where(0, 0): place 2 of two", x.where(0, 0), NONE);
    CHECKS.due("where(2, 1): place 5 of two", x.where(2, 1), NONE);
    CHECKS.due("where(3, 0): it comes back", x.where(3, 0), 1);
    CHECKS.due("crowd(0, 0)", x.crowd(0, 0), 4);
    CHECKS.due("crowd(0, 1)", x.crowd(0, 1), 0);
    CHECKS.under("and by itself");
    CHECKS.due("bright(2, 0): no lightning", x.bright(2, 0), 0);
    CHECKS.due("bright(2, 1): no lightning", x.bright(2, 1), 1);
    CHECKS.due("lightning(0)", x.lightning(0), NONE);
    x = Checks.told("2o;8o", "09");
    Checks.goings(x, 0, 0, 3, 0, 1, 3);
    CHECKS.due("bright(9, 0): not with another that is nowhere", x.bright(9, 0), 2);
    CHECKS.due("bright(9, 1)", x.bright(9, 1), 8);
    CHECKS.under("PLACE 0 too, where there is none");
    x = Checks.told("0o;0o", "");
    CHECKS.due("where(0, 0)", x.where(0, 0), NONE);
    CHECKS.due("lightning(0)", x.lightning(0), NONE);
  }

  private static void readingGoings() {
    CHECKS.under("its items, three for each, as many as are whole");
    for (int n = 0; n <= 7; n++) {
      OwnWeather x = new OwnWeather();
      x.sheet(0, 2, n);
      CHECKS.due("read of " + n + " items", x.read(0), n / 3);
      CHECKS.due("count(4)", x.count(4), n / 3);
    }
    CHECKS.under("of 60 items, 20 GOINGS");
    for (int form = 0; form < 3; form++) {
      OwnWeather x = Checks.told("5o", "09;09");
      x.sheet(3, form, 60);
      x.lay(3, form, 59, 1);
      CHECKS.due("read(3)", x.read(3), 20);
      CHECKS.due("count(4)", x.count(4), 20);
      CHECKS.due("where(0, 0): the last of like ones", x.where(0, 0), 1);
      CHECKS.due("back()", x.back(), 19);
      CHECKS.due("where(0, 0)", x.where(0, 0), 0);
    }
    CHECKS.under("as long as each may be: till the first that is BAD");
    int[][] bad = {{24, 0, 0}, {-1, 0, 0}, {0, 8, 0}, {0, -1, 0}, {0, 0, 6}, {0, 0, -1}};
    for (int[] b : bad) {
      OwnWeather x = new OwnWeather();
      Checks.items(x, 0, 0, 23, 7, 5, b[0], b[1], b[2], 0, 0, 0);
      CHECKS.due("read(0)", x.read(0), 1);
      CHECKS.due("count(4)", x.count(4), 1);
      CHECKS.due("count(8)", x.count(8), 0);
      Checks.items(x, 0, 0, b[0], b[1], b[2], 0, 0, 0);
      CHECKS.due("read(0) of a bad first one", x.read(0), 0);
      CHECKS.due("count(4)", x.count(4), 1);
    }
    CHECKS.under("as long as each may be: till there is no room");
    OwnWeather x = new OwnWeather();
    for (int k = 0; k < 18; k++) x.go(0, 0, 0);
    x.sheet(0, 1, 9);
    CHECKS.due("read(0): two of three", x.read(0), 2);
    CHECKS.due("count(4)", x.count(4), 20);
    CHECKS.due("read(0): none", x.read(0), 0);
    CHECKS.due("count(4)", x.count(4), 20);
    CHECKS.under("a SHEET that was read is as it was");
    CHECKS.due("lose(0)", x.lose(0), 9);
    CHECKS.under("ints are read whole: no lower bits make an HOUR of them");
    Checks.items(x, 1, 2, 256, 0, 0);
    x.back();
    CHECKS.due("read(1)", x.read(1), 0);
  }

  // ---- the weather

  private static void brighterAndLess() {
    CHECKS.under("one more BRIGHT, if all others that are at its PLACE are BRIGHTER than it on the mean");
    CHECKS.due("5 by 6", Checks.told("5o;6c", "09").bright(1, 0), 6);
    CHECKS.due("5 by 5 and 6: by a half", Checks.told("5o;5c;6c", "09").bright(1, 0), 6);
    CHECKS.due("5 by six of 5 and one of 6: by a seventh",
        Checks.told("5h;5c;5c;5c;5c;5c;5c;6c", "09").bright(1, 0), 6);
    CHECKS.due("8 by 9: 9 is the most", Checks.told("8o;9c", "09").bright(23, 0), 9);
    CHECKS.due("2 by 2 and 9: by one only", Checks.told("2o;2c;9c", "09").bright(1, 0), 3);
    CHECKS.under("one less, if they are less BRIGHT on the mean");
    CHECKS.due("5 by 4", Checks.told("5o;4c", "09").bright(1, 0), 4);
    CHECKS.due("5 by 5 and 4: by a half", Checks.told("5o;5c;4c", "09").bright(1, 0), 4);
    CHECKS.due("5 by six of 5 and one of 4: by a seventh",
        Checks.told("5h;5c;5c;5c;5c;5c;5c;4c", "09").bright(1, 0), 4);
    CHECKS.due("1 by 0, alone dark", Checks.told("2o;0c", "09").bright(1, 0), 1);
    CHECKS.under("as it was, if they are as BRIGHT on the mean");
    CHECKS.due("as bright as the mean", Checks.told("5o;3c;7c", "09").bright(1, 0), 5);
    CHECKS.due("as bright as all", Checks.told("9o;9o;9o", "09").bright(23, 1), 9);
    CHECKS.under("(alone: as it was)");
    for (int v = 0; v <= 9; v++) CHECKS.due("alone", Checks.told(v + "o", "09").bright(23, 0), v);
    OwnWeather x = Checks.told("3o;9o", "09;09");
    x.go(0, 1, 1);
    CHECKS.due("bright(23, 0)", x.bright(23, 0), 3);
    CHECKS.due("bright(23, 1)", x.bright(23, 1), 9);
    CHECKS.under("all at once by how it was");
    x = Checks.told("4o;5o", "09");
    for (int h = 0; h < 24; h++) {
      CHECKS.due("bright(" + h + ", 0)", x.bright(h, 0), 4 + h % 2);
      CHECKS.due("bright(" + h + ", 1)", x.bright(h, 1), 5 - h % 2);
    }
    CHECKS.under("From HOUR to HOUR: by the PLACE of the HOUR that ends");
    x = Checks.told("4o;9c", "09;09");
    x.go(3, 1, 1);
    CHECKS.due("bright(3, 0)", x.bright(3, 0), 7);
    CHECKS.due("bright(4, 0)", x.bright(4, 0), 7);
  }

  private static void lightningStrikes() {
    CHECKS.under("LIGHTNING at a PLACE where two or more are 1 or less BRIGHT");
    CHECKS.due("1 and 1", Checks.told("1c;1c", "09").lightning(0), 0);
    CHECKS.due("0 and 1", Checks.told("0c;1h", "09").lightning(0), 0);
    CHECKS.due("three of them", Checks.told("0o;1h;1c;9c", "09").lightning(0), 0);
    CHECKS.due("eight of them", Checks.told(Checks.EIGHT, "09").lightning(0), 0);
    CHECKS.due("1 and 2", Checks.told("1c;2c", "09").lightning(0), NONE);
    CHECKS.due("one of 0", Checks.told("0c", "09").lightning(0), NONE);
    CHECKS.due("one of 0 among others", Checks.told("0c;9c;9c", "09").lightning(0), NONE);
    OwnWeather x = Checks.told("1c;1c", "09;09");
    x.go(0, 1, 1);
    CHECKS.due("at two places", x.lightning(0), NONE);
    CHECKS.under("then all there are 0 in the next HOUR (but those that are dead calm)");
    x = Checks.told("0c;1c;9o;9h;9c;9o", "09;09");
    x.go(0, 5, 1);
    int[] due = {0, 1, 0, 0, 9, 9};
    for (int p = 0; p < 6; p++) CHECKS.due("bright(1, " + p + ")", x.bright(1, p), due[p]);
    CHECKS.under("not in the HOUR itself");
    CHECKS.due("bright(0, 2)", x.bright(0, 2), 9);
    CHECKS.under("by who is there then, and by nothing before");
    x = Checks.told("1c;1c;9o;9o", "09;09");
    Checks.goings(x, 0, 2, 1, 0, 3, 1, 22, 2, 0, 23, 3, 0);
    CHECKS.due("bright(22, 2)", x.bright(22, 2), 9);
    CHECKS.due("bright(23, 2): it came in hour 22", x.bright(23, 2), 0);
    CHECKS.due("bright(23, 3): it came in hour 23", x.bright(23, 3), 9);
  }

  private static void skies() {
    CHECKS.under("The SKY at a PLACE in an HOUR is how BRIGHT those there are on the mean: a FRACTION");
    fraction(Checks.told("7c", "09"), 7, 1);
    fraction(Checks.told("7c;8c", "09"), 15, 2);
    fraction(Checks.told("9c;9c;9c;9c;9c;9c;9c;8c", "09"), 71, 8);
    CHECKS.under("FRACTIONS are told in lowest terms, above and below");
    fraction(Checks.told("9c;9c;9c;9c;9c;9c;9c;9c", "09"), 9, 1);
    fraction(Checks.told("1c;2c;3c;4c", "09"), 5, 2);
    fraction(Checks.told("1c;1c;1c;1c;1c;1c;0c;0c", "09"), 3, 4);
    CHECKS.under("(0 by 1)");
    fraction(Checks.told("0c", "09"), 0, 1);
    fraction(Checks.told("0c;0c;0c;0c;0c;0c;0c;0c", "09"), 0, 1);
    CHECKS.under("SKY: NOT: nobody is there");
    OwnWeather x = Checks.told("5o", "09;09");
    x.go(23, 0, 1);
    CHECKS.due("sky(22, 1, 0)", x.sky(22, 1, 0), NOT_LONG);
    CHECKS.due("sky(22, 1, 1)", x.sky(22, 1, 1), NOT_LONG);
    CHECKS.due("sky(23, 1, 0)", x.sky(23, 1, 0), 5);
    CHECKS.due("sky(23, 0, 0)", x.sky(23, 0, 0), NOT_LONG);
  }

  private static void fraction(OwnWeather x, long above, long below) {
    CHECKS.due("sky above", x.sky(0, 0, 0), above);
    CHECKS.due("sky below", x.sky(0, 0, 1), below);
  }

  private static void tasks() {
    CHECKS.under("its TASK is MET, if that is LOW or more");
    CHECKS.due("just LOW", Checks.told("3c;7c", "59").met(0), 1);
    CHECKS.due("an eighth less", Checks.told("5c;5c;5c;5c;5c;5c;5c;4c", "59").met(0), 0);
    CHECKS.due("an eighth more", Checks.told("5c;5c;5c;5c;5c;5c;5c;6c", "59").met(0), 1);
    CHECKS.under("HIGH or less");
    CHECKS.due("just HIGH", Checks.told("3c;7c", "05").met(0), 1);
    CHECKS.due("an eighth more", Checks.told("5c;5c;5c;5c;5c;5c;5c;6c", "05").met(0), 0);
    CHECKS.due("an eighth less", Checks.told("5c;5c;5c;5c;5c;5c;5c;4c", "05").met(0), 1);
    CHECKS.due("LOW is HIGH", Checks.told("0c", "00").met(0), 1);
    CHECKS.due("LOW is HIGH", Checks.told("9c", "99").met(0), 1);
    CHECKS.under("(where nobody is it is not MET)");
    OwnWeather x = Checks.told("5o", "09;09;00");
    CHECKS.due("met(0)", x.met(0), 1);
    CHECKS.due("met(0) of nobody", Checks.told("", "09;00").met(0), 0);
    CHECKS.under("TASKS that are MET, as bits of PLACES");
    x = Checks.told(Checks.EIGHT, Checks.SIX);
    for (int p = 0; p < 6; p++) x.go(0, p, p);
    CHECKS.due("met(0): all six", x.met(0), 63);
    x.go(23, 5, 0);
    CHECKS.due("met(22)", x.met(22), 63);
    CHECKS.due("met(23)", x.met(23), 31);
  }

  private static void hourQuestions() {
    CHECKS.under("who is at a PLACE, as bits");
    OwnWeather x = Checks.told(Checks.EIGHT, "09;09");
    CHECKS.due("crowd(0, 0): all eight", x.crowd(0, 0), 255);
    CHECKS.due("crowd(0, 1): nobody", x.crowd(0, 1), 0);
    CHECKS.under("SPOILT of a PLACE: HOURS in which somebody is there, and its TASK is not MET, as bits");
    x = Checks.told("5c", "66;55;66");
    CHECKS.due("spoilt(0): all hours", x.spoilt(0), ALL_HOURS);
    CHECKS.due("spoilt(1): nobody is there", x.spoilt(1), 0);
    Checks.goings(x, 0, 0, 1, 1, 0, 2, 2, 0, 1, 23, 0, 0);
    CHECKS.due("spoilt(0): hour 23", x.spoilt(0), 1 << 23);
    CHECKS.due("spoilt(1): it is MET", x.spoilt(1), 0);
    CHECKS.due("spoilt(2): hour 1", x.spoilt(2), 2);
    CHECKS.under("FIRST LIGHTNING: the HOUR, the least PLACE of it");
    x = Checks.told("1c;1c;0c;0c;9c", "09;09;09;09;09;09");
    Checks.goings(x, 0, 1, 1, 0, 2, 2, 0, 3, 3, 8, 0, 5, 8, 1, 5, 8, 2, 4, 8, 3, 4, 9, 0, 0, 9, 1, 0);
    CHECKS.due("lightning(0): an earlier hour", x.lightning(0), 8);
    CHECKS.due("lightning(1): the least place of it, not of all", x.lightning(1), 4);
    CHECKS.under("FIRST LIGHTNING: in HOUR 23; NONE");
    x = Checks.told("1c;1c", "09;09");
    Checks.goings(x, 0, 0, 1, 23, 0, 0);
    CHECKS.due("lightning(0)", x.lightning(0), 23);
    CHECKS.due("lightning(1)", x.lightning(1), 0);
    x.back();
    CHECKS.due("lightning(0)", x.lightning(0), NONE);
    CHECKS.due("lightning(1)", x.lightning(1), NONE);
  }

  private static void settling() {
    CHECKS.under("SETTLES: the least HOUR from which on (to HOUR 23) nobody is more or less BRIGHT than in it");
    CHECKS.due("nobody", new OwnWeather().settles(), 0);
    CHECKS.due("one", Checks.told("5o", "09").settles(), 0);
    CHECKS.due("calm ones", Checks.told("0c;9c", "09").settles(), 0);
    CHECKS.due("eight calm ones", Checks.told("1c;2c;3c;4c;5c;6c;7c;8c", "09").settles(), 0);
    CHECKS.due("the last of eight", Checks.told("9c;9c;9c;9c;9c;9c;9c;8o", "09").settles(), 1);
    CHECKS.due("after one hour", Checks.told("8o;9c", "09").settles(), 1);
    CHECKS.due("after nine hours", Checks.told("0o;9c", "09").settles(), 9);
    CHECKS.due("never: HOUR 23", Checks.told("8o;9o", "09").settles(), 23);
    OwnWeather x = Checks.told("8o;9c", "09;09");
    Checks.goings(x, 0, 0, 1, 22, 0, 0);
    CHECKS.due("a change in the last hour", x.settles(), 23);
    x.back();
    x.go(23, 0, 0);
    CHECKS.due("one that would come later", x.settles(), 0);
    x = Checks.told("9c;0o", "09");
    CHECKS.due("with one that changes", x.settles(), 9);
    for (int k = 0; k < 3; k++) x.undo(0);
    CHECKS.due("without it", x.settles(), 0);
    x = Checks.told("5o;6c;4c", "09;09;09");
    Checks.goings(x, 0, 1, 1, 0, 2, 2, 3, 0, 1, 4, 0, 2, 5, 0, 0);
    CHECKS.due("bright(4, 0)", x.bright(4, 0), 6);
    CHECKS.due("bright(5, 0)", x.bright(5, 0), 5);
    CHECKS.due("as bright as before, but not all along", x.settles(), 5);
  }
}
