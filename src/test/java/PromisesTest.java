/** For each promise of the document: ordinary inputs, the edges that it names, wrong inputs. */
public final class PromisesTest {
  private static final int NONE = -1, BAD = -2, NOT = -3, FULL = -4;
  private static final int NULL = -11, INDEX = -12, CAST = -13, STORE = -14, SIZE = -15;
  private static final long BAD_LONG = Long.MIN_VALUE + 2, NOT_LONG = Long.MIN_VALUE + 3;
  private static final int LEAST = Integer.MIN_VALUE;
  private static int wrong = 0, promise = 0, made = 0;

  private static void due(String what, long got, long want) {
    made++;
    if (got != want) {
      wrong++;
      System.out.println("promise " + promise + ": " + what + " answered " + got + ", due is " + want);
    }
  }

  public static void main(String[] args) {
    Runnable[] promises = {
      PromisesTest::newObject, PromisesTest::type, PromisesTest::wipe, PromisesTest::undo, PromisesTest::fault,
      PromisesTest::person, PromisesTest::place, PromisesTest::go, PromisesTest::back, PromisesTest::read,
      PromisesTest::where, PromisesTest::bright, PromisesTest::crowd, PromisesTest::sky, PromisesTest::met,
      PromisesTest::spoilt, PromisesTest::lightning, PromisesTest::settles, PromisesTest::send, PromisesTest::keep,
      PromisesTest::row, PromisesTest::seen, PromisesTest::fog, PromisesTest::forget, PromisesTest::may,
      PromisesTest::hid, PromisesTest::news, PromisesTest::roof, PromisesTest::day, PromisesTest::sheet,
      PromisesTest::lose, PromisesTest::lay, PromisesTest::get, PromisesTest::copy, PromisesTest::write,
      PromisesTest::count, PromisesTest::digest};
    for (Runnable test : promises) {
      promise++;
      int before = made;
      test.run();
      if (made == before) due("the number of checks", 0, 1);
    }
    System.out.println(wrong == 0 ? promise + " promises hold in " + made + " checks" : wrong + " answers are not as due");
    if (wrong != 0) System.exit(1);
  }

  // ---- people, places

  private static void newObject() {
    OwnWeather x = new OwnWeather();
    for (int what = 0; what <= 8; what++) due("count(" + what + ")", x.count(what), 0);
    due("fault(0)", x.fault(0), NONE);
    due("fault(1)", x.fault(1), NONE);
    for (int s = 0; s < 4; s++) due("lose(" + s + ")", x.lose(s), NULL);
    due("undo(0)", x.undo(0), NOT);
    due("back()", x.back(), NOT);
    due("hid()", x.hid(), 0);
    due("settles()", x.settles(), 0);
    x.type(0, '5');
    x.sheet(0, 0, 1);
    due("another object's count(2)", new OwnWeather().count(2), 0);
    due("another object's lose(0)", new OwnWeather().lose(0), NULL);
  }

  private static void type() {
    OwnWeather x = new OwnWeather();
    due("type(0, '4')", x.type(0, '4'), 1);
    due("type(0, 0)", x.type(0, 0), 2);
    due("type(0, 255)", x.type(0, 255), 3);
    due("type(1, 7)", x.type(1, 7), 1);
    due("type(0, -1)", x.type(0, -1), BAD);
    due("type(0, 256)", x.type(0, 256), BAD);
    due("type(-1, 5)", x.type(-1, 5), BAD);
    due("type(2, 5)", x.type(2, 5), BAD);
    for (int k = 4; k <= 23; k++) due("byte " + k, x.type(0, 'x'), k);
    due("the 24th byte", x.type(0, 'x'), FULL);
    due("a bad 24th byte", x.type(0, 256), BAD);
    due("count(2)", x.count(2), 23);
    for (int k = 2; k <= 17; k++) due("byte " + k, x.type(1, 'x'), k);
    due("the 18th byte", x.type(1, 'x'), FULL);
    due("count(3)", x.count(3), 17);
  }

  private static void wipe() {
    OwnWeather x = Checks.told("4o;5c", "12");
    due("wipe(-1)", x.wipe(-1), BAD);
    due("wipe(2)", x.wipe(2), BAD);
    due("count(0)", x.count(0), 2);
    due("wipe(0)", x.wipe(0), 5);
    due("count(0)", x.count(0), 0);
    due("count(2)", x.count(2), 0);
    due("count(1)", x.count(1), 1);
    due("wipe(0) again", x.wipe(0), 0);
    due("wipe(1)", x.wipe(1), 2);
    due("type after it", x.type(1, '3'), 1);
  }

  private static void undo() {
    OwnWeather x = Checks.told("4o;", "12");
    due("undo(0)", x.undo(0), 2);
    due("count(0)", x.count(0), 1);
    due("undo(0)", x.undo(0), 1);
    due("undo(0)", x.undo(0), 0);
    due("undo(0) of an empty one", x.undo(0), NOT);
    due("undo(1)", x.undo(1), 1);
    due("undo(-1)", x.undo(-1), BAD);
    due("undo(2)", x.undo(2), BAD);
    Checks.tell(x, 0, "7c");
    due("person(0, 0)", x.person(0, 0), 7);
    OwnWeather y = Checks.told("7o;3o", "09");
    due("bright(1, 0)", y.bright(1, 0), 6);
    for (int k = 0; k < 3; k++) y.undo(0);
    due("bright(1, 0): alone again", y.bright(1, 0), 7);
  }

  private static void fault() {
    due("fault(-1)", new OwnWeather().fault(-1), BAD);
    due("fault(2)", new OwnWeather().fault(2), BAD);
    String[] well = {"", "0o", "9h;0c", "1o;1o;1o;1o;1o;1o;1o;1o"};
    for (String s : well) due(s, Checks.faultOf(0, s), NONE);
    due("5", Checks.faultOf(0, "5"), 1);
    due("o", Checks.faultOf(0, "o"), 0);
    due(";", Checks.faultOf(0, ";"), 0);
    due("55", Checks.faultOf(0, "55"), 1);
    due("5x", Checks.faultOf(0, "5x"), 1);
    due("5O", Checks.faultOf(0, "5O"), 1);
    due("5o,", Checks.faultOf(0, "5o,"), 2);
    due("5o5o", Checks.faultOf(0, "5o5o"), 2);
    due("5o;", Checks.faultOf(0, "5o;"), 3);
    due("5o;;", Checks.faultOf(0, "5o;;"), 3);
    due("5o;5", Checks.faultOf(0, "5o;5"), 4);
    due("5o;5x;", Checks.faultOf(0, "5o;5x;"), 4);
    due("5 o", Checks.faultOf(0, "5 o"), 1);
    due("/o", Checks.faultOf(0, "/o"), 0);
    due(":o", Checks.faultOf(0, ":o"), 0);
    String[] wellPlaces = {"", "00", "09", "55;12", "00;11;22;33;44;99"};
    for (String s : wellPlaces) due(s, Checks.faultOf(1, s), NONE);
    due("5", Checks.faultOf(1, "5"), 1);
    due("54", Checks.faultOf(1, "54"), 1);
    due("5o", Checks.faultOf(1, "5o"), 1);
    due("x5", Checks.faultOf(1, "x5"), 0);
    due("455", Checks.faultOf(1, "455"), 2);
    due("45;", Checks.faultOf(1, "45;"), 3);
    due("45;21", Checks.faultOf(1, "45;21"), 4);
    OwnWeather x = Checks.told("5o;5x", "45;2");
    due("count(0) of a faulty text", x.count(0), 0);
    due("count(1) of a faulty text", x.count(1), 0);
    due("count(2) of a faulty text", x.count(2), 5);
    due("count(3) of a faulty text", x.count(3), 4);
  }

  private static void person() {
    OwnWeather x = Checks.told("7o;0h;9c", "");
    int[] brights = {7, 0, 9};
    for (int p = 0; p < 3; p++) {
      due("person(" + p + ", 0)", x.person(p, 0), brights[p]);
      due("person(" + p + ", 1)", x.person(p, 1), p);
    }
    due("person(3, 0)", x.person(3, 0), BAD);
    due("person(-1, 0)", x.person(-1, 0), BAD);
    due("person(0, 2)", x.person(0, 2), BAD);
    due("person(0, -1)", x.person(0, -1), BAD);
    x.type(0, ';');
    due("person(0, 0) of a faulty text", x.person(0, 0), BAD);
  }

  private static void place() {
    OwnWeather x = Checks.told("", "47;09;33");
    int[] lows = {4, 0, 3}, highs = {7, 9, 3};
    for (int q = 0; q < 3; q++) {
      due("place(" + q + ", 0)", x.place(q, 0), lows[q]);
      due("place(" + q + ", 1)", x.place(q, 1), highs[q]);
    }
    due("place(3, 0)", x.place(3, 0), BAD);
    due("place(-1, 0)", x.place(-1, 0), BAD);
    due("place(0, 2)", x.place(0, 2), BAD);
    due("place(0, -1)", x.place(0, -1), BAD);
    x.undo(1);
    due("place(0, 0) of a faulty text", x.place(0, 0), BAD);
  }

  private static void go() {
    OwnWeather x = Checks.told("5o", "09;09");
    int[][] bad = {{-1, 0, 0}, {24, 0, 0}, {0, -1, 0}, {0, 8, 0}, {0, 0, -1}, {0, 0, 6}};
    for (int[] g : bad) due("a bad going", x.go(g[0], g[1], g[2]), BAD);
    due("count(4)", x.count(4), 0);
    due("go(23, 7, 5)", x.go(23, 7, 5), 1);
    due("go(0, 0, 1)", x.go(0, 0, 1), 2);
    due("where(0, 0)", x.where(0, 0), 1);
    for (int k = 3; k <= 20; k++) due("going " + k, x.go(1, 1, 1), k);
    due("the 21st going", x.go(0, 0, 0), FULL);
    due("a bad 21st going", x.go(0, 0, 6), BAD);
    due("count(4)", x.count(4), 20);
    due("where(0, 0) still", x.where(0, 0), 1);
  }

  private static void back() {
    OwnWeather x = Checks.told("5o", "09;09;09");
    Checks.goings(x, 5, 0, 1, 2, 0, 2);
    due("where(3, 0)", x.where(3, 0), 2);
    due("back()", x.back(), 1);
    due("where(3, 0)", x.where(3, 0), 0);
    due("where(5, 0)", x.where(5, 0), 1);
    due("back()", x.back(), 0);
    due("where(5, 0)", x.where(5, 0), 0);
    due("back() of none", x.back(), NOT);
    due("count(4)", x.count(4), 0);
  }

  private static void read() {
    OwnWeather x = Checks.told("5o;6o", "09;09;09");
    due("read(-1)", x.read(-1), BAD);
    due("read(4)", x.read(4), BAD);
    due("read(0)", x.read(0), NULL);
    due("count(8)", x.count(8), 1);
    x.sheet(0, 0, 8);
    int[] items = {3, 1, 2, 4, 0, 1, 9, 9};
    for (int i = 0; i < items.length; i++) x.lay(0, 0, i, items[i]);
    x.go(0, 0, 2);
    due("read(0): two whole ones", x.read(0), 2);
    due("count(4): told behind the earlier one", x.count(4), 3);
    due("where(3, 1)", x.where(3, 1), 2);
    due("where(3, 0)", x.where(3, 0), 2);
    due("where(4, 0)", x.where(4, 0), 1);
    due("back()", x.back(), 2);
    due("where(4, 0)", x.where(4, 0), 2);
    x.lay(0, 0, 1, 8);
    due("read(0): no first one", x.read(0), 0);
    x.lay(0, 0, 1, -1);
    due("read(0): below 0", x.read(0), 0);
    x.sheet(1, 2, 2);
    due("read(1): none is whole", x.read(1), 0);
    x.sheet(1, 2, 0);
    due("read(1): empty", x.read(1), 0);
    x.sheet(2, 1, 60);
    due("read(2): as many as there is room for", x.read(2), 18);
    due("count(4)", x.count(4), 20);
    due("read(2): no room", x.read(2), 0);
    for (int k = 0; k < 20; k++) x.back();
    due("read(2): all", x.read(2), 20);
  }

  // ---- hours

  private static void where() {
    OwnWeather x = Checks.told("5o;6o", "09;09;09");
    due("where(0, 0)", x.where(0, 0), 0);
    Checks.goings(x, 5, 0, 1, 3, 0, 2, 5, 1, 1, 5, 1, 2);
    int[] due0 = {0, 0, 0, 2, 2, 1, 1};
    for (int h = 0; h < due0.length; h++) due("where(" + h + ", 0)", x.where(h, 0), due0[h]);
    due("where(4, 1)", x.where(4, 1), 0);
    due("where(5, 1): the last told", x.where(5, 1), 2);
    due("where(23, 1)", x.where(23, 1), 2);
    Checks.goings(x, 4, 1, 1);
    due("where(4, 1)", x.where(4, 1), 1);
    due("where(5, 1): the latest hour", x.where(5, 1), 2);
    Checks.goings(x, 6, 0, 3);
    due("where(6, 0): no such place", x.where(6, 0), NONE);
    Checks.tell(x, 1, ";09");
    due("where(6, 0): now there is", x.where(6, 0), 3);
    due("where(24, 0)", x.where(24, 0), BAD);
    due("where(-1, 0)", x.where(-1, 0), BAD);
    due("where(0, 2)", x.where(0, 2), BAD);
    due("where(0, -1)", x.where(0, -1), BAD);
    x.wipe(1);
    due("where(0, 0) without places", x.where(0, 0), NONE);
  }

  private static void bright() {
    OwnWeather x = Checks.told("8o;2h;4c", "45;09");
    int[][] due = {{8, 2}, {7, 3}, {6, 4}, {5, 5}, {4, 4}, {4, 4}};
    for (int h = 0; h < due.length; h++) {
      due("bright(" + h + ", 0)", x.bright(h, 0), due[h][0]);
      due("bright(" + h + ", 1)", x.bright(h, 1), due[h][1]);
      due("bright(" + h + ", 2)", x.bright(h, 2), 4);
    }
    x.go(2, 1, 1);
    due("bright(4, 1): alone from hour 2 on", x.bright(4, 1), 4);
    due("bright(3, 0): with the calm one", x.bright(3, 0), 5);
    x.back();
    x.go(1, 1, 5);
    due("bright(2, 1): nowhere, by itself", x.bright(2, 1), 3);
    x.go(1, 0, 5);
    due("bright(9, 0): nowhere, each by itself", x.bright(9, 0), 7);
    due("bright(9, 1): nowhere, each by itself", x.bright(9, 1), 3);
    OwnWeather y = Checks.told("1o;1c;9h", "09");
    due("bright(1, 0): lightning", y.bright(1, 0), 0);
    due("bright(1, 1): calm", y.bright(1, 1), 1);
    due("bright(1, 2): lightning", y.bright(1, 2), 0);
    OwnWeather z = Checks.told("0o;0o", "");
    due("bright(1, 0): no place, no lightning", z.bright(1, 0), 0);
    due("bright(24, 0)", x.bright(24, 0), BAD);
    due("bright(-1, 0)", x.bright(-1, 0), BAD);
    due("bright(0, 3)", x.bright(0, 3), BAD);
    due("bright(0, -1)", x.bright(0, -1), BAD);
  }

  private static void crowd() {
    OwnWeather x = Checks.told("5o;6o;7o;8o", "09;09;09");
    due("crowd(0, 0)", x.crowd(0, 0), 15);
    Checks.goings(x, 2, 1, 1, 2, 3, 1, 4, 3, 5);
    due("crowd(1, 0)", x.crowd(1, 0), 15);
    due("crowd(2, 0)", x.crowd(2, 0), 5);
    due("crowd(2, 1)", x.crowd(2, 1), 10);
    due("crowd(2, 2)", x.crowd(2, 2), 0);
    due("crowd(4, 1): one is nowhere", x.crowd(4, 1), 2);
    due("crowd(24, 0)", x.crowd(24, 0), BAD);
    due("crowd(-1, 0)", x.crowd(-1, 0), BAD);
    due("crowd(0, 3)", x.crowd(0, 3), BAD);
    due("crowd(0, -1)", x.crowd(0, -1), BAD);
  }

  private static void sky() {
    OwnWeather x = Checks.told("8o;2h;4c", "45;09");
    due("sky(0, 0, 0)", x.sky(0, 0, 0), 14);
    due("sky(0, 0, 1)", x.sky(0, 0, 1), 3);
    due("sky(4, 0, 0)", x.sky(4, 0, 0), 4);
    due("sky(4, 0, 1)", x.sky(4, 0, 1), 1);
    x.go(0, 1, 1);
    due("sky(0, 0, 0)", x.sky(0, 0, 0), 6);
    due("sky(0, 0, 1)", x.sky(0, 0, 1), 1);
    x.go(0, 1, 0);
    due("sky(0, 1, 0) of nobody", x.sky(0, 1, 0), NOT_LONG);
    due("sky(0, 1, 2) of nobody", x.sky(0, 1, 2), BAD_LONG);
    OwnWeather y = Checks.told("0c;0c", "09");
    due("sky(0, 0, 0) of 0", y.sky(0, 0, 0), 0);
    due("sky(0, 0, 1) of 0", y.sky(0, 0, 1), 1);
    due("sky(24, 0, 0)", x.sky(24, 0, 0), BAD_LONG);
    due("sky(-1, 0, 0)", x.sky(-1, 0, 0), BAD_LONG);
    due("sky(0, 2, 0)", x.sky(0, 2, 0), BAD_LONG);
    due("sky(0, -1, 0)", x.sky(0, -1, 0), BAD_LONG);
    due("sky(0, 0, -1)", x.sky(0, 0, -1), BAD_LONG);
  }

  private static void met() {
    OwnWeather x = Checks.told("8o;2h;4c", "45;09");
    due("met(0): 14 by 3 from 4 to 5", x.met(0), 1);
    due("met(4): 4 by 1 from 4 to 5", x.met(4), 1);
    x.wipe(1);
    Checks.tell(x, 1, "55;09");
    due("met(0): less than 5", x.met(0), 0);
    x.wipe(1);
    Checks.tell(x, 1, "04;09");
    due("met(0): more than 4", x.met(0), 0);
    due("met(4): just 4", x.met(4), 1);
    x.go(1, 0, 1);
    due("met(1): each", x.met(1), 3);
    due("met(-1)", x.met(-1), BAD);
    due("met(24)", x.met(24), BAD);
    due("met(0) of nothing", new OwnWeather().met(0), 0);
  }

  private static void spoilt() {
    OwnWeather x = Checks.told("8o;2h;4c", "04;09;99");
    due("spoilt(0): till it is 4", x.spoilt(0), 15);
    due("spoilt(1): nobody is there", x.spoilt(1), 0);
    Checks.goings(x, 20, 2, 2, 22, 2, 1);
    due("spoilt(2): hours 20 and 21", x.spoilt(2), 3 << 20);
    due("spoilt(1): it has its weather", x.spoilt(1), 0);
    due("spoilt(3)", x.spoilt(3), BAD);
    due("spoilt(-1)", x.spoilt(-1), BAD);
    due("spoilt(0): all hours", Checks.told("9c", "08").spoilt(0), (1 << 24) - 1);
  }

  private static void lightning() {
    OwnWeather x = Checks.told("1c;0o;9o", "09;09;09");
    due("lightning(0)", x.lightning(0), 0);
    due("lightning(1)", x.lightning(1), 0);
    Checks.goings(x, 0, 0, 1, 0, 1, 2);
    due("lightning(0): each alone", x.lightning(0), NONE);
    due("lightning(1): each alone", x.lightning(1), NONE);
    Checks.goings(x, 23, 1, 1);
    due("lightning(0): in hour 23", x.lightning(0), 23);
    due("lightning(1): in hour 23", x.lightning(1), 1);
    OwnWeather y = Checks.told("2c;1c;0c;0c;1c", "09;09;09");
    Checks.goings(y, 0, 1, 2, 0, 2, 2, 0, 3, 1, 0, 4, 1);
    due("lightning(0)", y.lightning(0), 0);
    due("lightning(1): the least place", y.lightning(1), 1);
    due("lightning(0): 2 is not dark", Checks.told("2c;1c", "09").lightning(0), NONE);
    due("lightning(0): nowhere", Checks.told("0c;0c", "").lightning(0), NONE);
    due("lightning(2)", x.lightning(2), BAD);
    due("lightning(-1)", x.lightning(-1), BAD);
  }

  private static void settles() {
    due("settles()", Checks.told("8o;2h;4c", "45").settles(), 4);
    due("settles(): at once", Checks.told("5o;5o", "09").settles(), 0);
    due("settles(): nobody", new OwnWeather().settles(), 0);
    due("settles(): they swap for ever", Checks.told("5o;4o", "09").settles(), 23);
    OwnWeather x = Checks.told("5o;4o", "09;09");
    x.go(7, 0, 1);
    due("settles(): parted in hour 7", x.settles(), 7);
    due("settles(): one that changes", Checks.told("9o;5c", "09").settles(), 4);
    due("settles(): one that changes", Checks.told("5c;9o", "09").settles(), 4);
    due("settles(): in no place, without places", Checks.told("5o;1o", "").settles(), 0);
  }

  // ---- plans

  private static void send() {
    OwnWeather x = Checks.told("9c;1c;5c;9c;4c", "09;77;49;89");
    due("send(0, 0, 0): it has it", x.send(0, 0, 0), 0);
    due("send(0, 0, 1): it has it", x.send(0, 0, 1), 0);
    due("send(1, 0, 0): 9 and 5", x.send(1, 0, 0), 2);
    due("send(1, 0, 1): the least of like ones", x.send(1, 0, 1), 5);
    due("send(3, 5, 0)", x.send(3, 5, 0), 1);
    due("send(3, 5, 1)", x.send(3, 5, 1), 1);
    due("count(4): nothing was told", x.count(4), 0);
    x.go(0, 0, 3);
    due("send(1, 0, 1): from another place", x.send(1, 0, 1), 5);
    due("send(3, 0, 0): who is there is there", x.send(3, 0, 0), 0);
    x.go(0, 0, 1);
    due("send(1, 0, 1): of those not there", x.send(1, 0, 1), 4);
    OwnWeather y = Checks.told("9c;3c", "33;99");
    due("send(0, 0, 0): none can be kept from it", y.send(0, 0, 0), NONE);
    due("send(0, 0, 1)", y.send(0, 0, 1), NONE);
    y.go(2, 0, 0);
    due("send(1, 1, 1): sent in hour 0", y.send(1, 1, 1), 1);
    due("send(1, 2, 0): it goes again in hour 2", y.send(1, 2, 0), NONE);
    OwnWeather w = Checks.told("9c;3c", "33;99");
    Checks.goings(w, 1, 0, 1, 1, 1, 1);
    due("send(1, 0, 1): who comes later may be sent", w.send(1, 0, 1), 1);
    Checks.goings(w, 0, 1, 1);
    due("send(1, 0, 0): the one who is there stays", w.send(1, 0, 0), NONE);
    OwnWeather z = Checks.told("9o;1o", "99;55");
    due("send(1, 4, 1): both, and both are 5", z.send(1, 4, 1), 3);
    int[][] bad = {{2, 0, 0}, {-1, 0, 0}, {0, 24, 0}, {0, -1, 0}, {0, 0, 2}, {0, 0, -1}};
    for (int[] b : bad) due("a bad send", y.send(b[0], b[1], b[2]), BAD);
    due("send(0, 0, 0) of nobody", Checks.told("", "09").send(0, 0, 0), NONE);
  }

  private static void keep() {
    OwnWeather x = Checks.told("1c;9c;5c;1c;9c", "09;09");
    due("keep(0, 0, 5, 0): as it is", x.keep(0, 0, 5, 0), 0);
    due("keep(0, 0, 5, 1): as it is", x.keep(0, 0, 5, 1), 0);
    due("keep(0, 0, 6, 0)", x.keep(0, 0, 6, 0), 1);
    due("keep(0, 0, 6, 1): the least of like ones", x.keep(0, 0, 6, 1), 1);
    due("keep(0, 0, 9, 0)", x.keep(0, 0, 9, 0), 3);
    due("keep(0, 0, 9, 1)", x.keep(0, 0, 9, 1), 1 + 4 + 8);
    due("keep(1, 0, 0, 0): nobody is left", x.keep(1, 0, 0, 0), NONE);
    x.go(3, 1, 1);
    x.go(3, 4, 1);
    due("keep(0, 3, 9, 0)", x.keep(0, 3, 9, 0), NONE);
    due("keep(0, 3, 9, 1)", x.keep(0, 3, 9, 1), NONE);
    due("keep(0, 3, 5, 1)", x.keep(0, 3, 5, 1), 9);
    due("keep(1, 3, 9, 0)", x.keep(1, 3, 9, 0), 0);
    OwnWeather y = Checks.told("8o;2h;4c", "45");
    due("keep(0, 3, 5, 1): how bright they are then", y.keep(0, 3, 5, 1), 4);
    int[][] bad = {{2, 0, 0, 0}, {-1, 0, 0, 0}, {0, 24, 0, 0}, {0, -1, 0, 0}, {0, 0, 10, 0}, {0, 0, -1, 0},
        {0, 0, 0, 2}, {0, 0, 0, -1}};
    for (int[] b : bad) due("a bad keep", x.keep(b[0], b[1], b[2], b[3]), BAD);
  }

  private static void row() {
    OwnWeather x = Checks.told("5o;1o;5o;9c", "09;09");
    int[] rising = {1, 0, 2, 3, NONE, NONE, NONE, NONE};
    for (int i = 0; i < 8; i++) due("row(0, 0, " + i + ")", x.row(0, 0, i), rising[i]);
    due("row(0, 0, NONE)", x.row(0, 0, NONE), 8);
    due("row(1, 0, NONE)", x.row(1, 0, NONE), 7);
    due("row(0, 1, NONE) of none", x.row(0, 1, NONE), 0);
    due("row(0, 1, 0) of none", x.row(0, 1, 0), NONE);
    OwnWeather y = Checks.told("9c;1c;5c;9c;1c", "09;09");
    int[] falling = {0, 3, 2, 1, 4};
    for (int i = 0; i < 5; i++) due("row(0, 0, " + i + ")", y.row(0, 0, i), falling[i]);
    y.go(4, 0, 1);
    due("row(4, 0, 0)", y.row(4, 0, 0), 1);
    due("row(4, 1, 0)", y.row(4, 1, 0), 0);
    due("row(4, 1, 1)", y.row(4, 1, 1), NONE);
    due("row(4, 1, NONE): alone", y.row(4, 1, NONE), 0);
    OwnWeather z = Checks.told("5c;5c;5c", "09");
    for (int i = 0; i < 3; i++) due("row(0, 0, " + i + ") of like ones", z.row(0, 0, i), i);
    int[][] bad = {{24, 0, 0}, {-1, 0, 0}, {0, 2, 0}, {0, -1, 0}, {0, 0, 8}, {0, 0, -2}};
    for (int[] b : bad) due("a bad row", x.row(b[0], b[1], b[2]), BAD);
  }

  // ---- seen, fogs, news

  private static void seen() {
    OwnWeather x = new OwnWeather();
    int[][] bad = {{24, 0, 0}, {-1, 0, 0}, {0, 8, 0}, {0, -1, 0}, {0, 0, 10}, {0, 0, -1}};
    for (int[] b : bad) due("a bad one", x.seen(b[0], b[1], b[2]), BAD);
    due("seen(23, 7, 9)", x.seen(23, 7, 9), 1);
    for (int k = 2; k <= 8; k++) due("seen " + k, x.seen(0, 0, 0), k);
    due("the 9th", x.seen(0, 0, 0), FULL);
    due("a bad 9th", x.seen(0, 0, 10), BAD);
    due("count(5)", x.count(5), 8);
  }

  private static void fog() {
    OwnWeather x = new OwnWeather();
    int[][] bad = {{24, 0, 0}, {-1, 0, 0}, {0, 6, 0}, {0, -1, 0}, {0, 0, 2}, {0, 0, -1}};
    for (int[] b : bad) due("a bad one", x.fog(b[0], b[1], b[2]), BAD);
    due("fog(23, 5, 1)", x.fog(23, 5, 1), 1);
    for (int k = 2; k <= 8; k++) due("fog " + k, x.fog(0, 0, 0), k);
    due("the 9th", x.fog(0, 0, 0), FULL);
    due("a bad 9th", x.fog(0, 0, 2), BAD);
    due("count(6)", x.count(6), 8);
  }

  private static void forget() {
    OwnWeather x = new OwnWeather();
    x.seen(0, 0, 0);
    x.seen(1, 0, 0);
    x.fog(0, 0, 0);
    due("forget(2)", x.forget(2), BAD);
    due("forget(-1)", x.forget(-1), BAD);
    due("forget(0)", x.forget(0), 2);
    due("count(5)", x.count(5), 0);
    due("count(6)", x.count(6), 1);
    due("forget(1)", x.forget(1), 1);
    due("count(6)", x.count(6), 0);
    due("forget(1) again", x.forget(1), 0);
    due("seen(0, 0, 0)", x.seen(0, 0, 0), 1);
  }

  private static void may() {
    OwnWeather x = Checks.told("5o;5c", "09;09");
    due("may(0): nothing was seen", x.may(0), 1023);
    x.seen(1, 0, 4);
    due("may(0): 3 and one more", x.may(0), 1 << 3);
    due("may(1): 0 to 4, by them 4 is seen", x.may(1), 31);
    x.seen(0, 1, 2);
    due("may(1)", x.may(1), 1 << 2);
    due("may(0): the other is told otherwise", x.may(0), 0);
    due("person(0, 0): nothing is changed", x.person(0, 0), 5);
    x.forget(0);
    x.seen(23, 2, 0);
    due("may(0): nobody such was there", x.may(0), 0);
    Checks.tell(x, 0, ";0c");
    due("may(2): now there is", x.may(2), 1);
    due("may(3)", x.may(3), BAD);
    due("may(-1)", x.may(-1), BAD);
  }

  private static void hid() {
    OwnWeather x = Checks.told("5o;6h;7c", "09;09");
    due("hid(): nothing was told", x.hid(), 7);
    Checks.goings(x, 2, 1, 1, 2, 2, 4);
    x.fog(0, 0, 1);
    due("hid()", x.hid(), 7);
    x.fog(2, 0, 0);
    due("hid(): not who is still there", x.hid(), 6);
    x.fog(3, 1, 1);
    due("hid(): who is there", x.hid(), 2);
    x.fog(3, 0, 1);
    due("hid(): not at both", x.hid(), 0);
    x.forget(1);
    x.fog(5, 4, 1);
    due("hid(): at no such place", x.hid(), 0);
    x.forget(1);
    x.fog(5, 4, 0);
    due("hid(): not at no such place", x.hid(), 7);
    due("hid() of nobody", Checks.told("", "09").hid(), 0);
  }

  private static void news() {
    OwnWeather x = Checks.told("5o;2h;9c", "09;55;00");
    Checks.goings(x, 0, 0, 1, 0, 1, 2);
    due("news(4, 1, 0, 0): it has none", x.news(4, 1, 0, 0), 3);
    due("news(4, 1, 0, 1)", x.news(4, 1, 0, 1), 4);
    due("news(6, 2, 0, 0): 2 is 0", x.news(6, 2, 0, 0), 3);
    due("news(6, 2, 0, 1)", x.news(6, 2, 0, 1), 8);
    due("news(6, 0, 0, 0): sure", x.news(6, 0, 0, 0), 1);
    due("news(6, 0, 0, 1): sure", x.news(6, 0, 0, 1), 1);
    due("news(16, 1, 0, 0): never", x.news(16, 1, 0, 0), 0);
    due("news(16, 1, 0, 1): never", x.news(16, 1, 0, 1), 1);
    due("news(0, 1, 0, 0)", x.news(0, 1, 0, 0), 1);
    x.go(0, 2, 1);
    due("news(1, 1, 0, 0): not with the calm one", x.news(1, 1, 0, 0), 0);
    x.go(0, 2, 0);
    x.go(0, 0, 0);
    due("news(1, 1, 0, 0) of nobody", x.news(1, 1, 0, 0), 0);
    OwnWeather y = Checks.told("9o;9o;9o;9o;9o;9o;9o;9o", "99");
    due("news(1, 0, 0, 0)", y.news(1, 0, 0, 0), 2562890625L);
    due("news(1, 0, 0, 1)", y.news(1, 0, 0, 1), 4294967296L);
    OwnWeather z = Checks.told("9o;3c", "55;08");
    due("news(8, 0, 1, 1): 8 and 3, or 5 and 3", z.news(8, 0, 1, 1), 1);
    due("news(8, 0, 3, 0): 6 and 3, or 3 and 3", z.news(8, 0, 3, 0), 0);
    due("news(8, 0, 2, 0): 7 and 3, or 4 and 3", z.news(8, 0, 2, 0), 1);
    due("news(8, 0, 2, 1)", z.news(8, 0, 2, 1), 2);
    int[][] bad = {{17, 0, 0, 0}, {-1, 0, 0, 0}, {0, 2, 0, 0}, {0, -1, 0, 0}, {0, 0, 24, 0}, {0, 0, -1, 0},
        {0, 0, 0, 2}, {0, 0, 0, -1}};
    for (int[] b : bad) due("bad news", z.news(b[0], b[1], b[2], b[3]), BAD_LONG);
  }

  private static void roof() {
    OwnWeather x = Checks.told("9o;3c", "34;09");
    due("roof(0, 0, 0): 5 and 3", x.roof(0, 0, 0), 4);
    due("roof(16, 0, 0): 5 and 3", x.roof(16, 0, 0), 1);
    due("roof(8, 0, 0): in either case", x.roof(8, 0, 0), 4);
    due("roof(8, 0, 20)", x.roof(8, 0, 20), 20);
    due("roof(8, 1, 0): nobody is there", x.roof(8, 1, 0), NONE);
    x.go(6, 1, 1);
    due("roof(8, 1, 0)", x.roof(8, 1, 0), 6);
    due("roof(8, 1, 23)", x.roof(8, 1, 23), 23);
    int[][] bad = {{17, 0, 0}, {-1, 0, 0}, {0, 2, 0}, {0, -1, 0}, {0, 0, 24}, {0, 0, -1}};
    for (int[] b : bad) due("a bad roof", x.roof(b[0], b[1], b[2]), BAD);
  }

  private static void day() {
    OwnWeather x = Checks.told("6o", "09");
    due("day(1, 0): alone", x.day(1, 0), 6);
    due("day(1, NONE): alone", x.day(1, NONE), 0);
    OwnWeather y = Checks.told("0c;1c", "09");
    due("day(1, NONE): in all hours", y.day(1, NONE), 24);
    due("day(1, 1)", y.day(1, 1), 1);
    // Lots of 2 by seed 0: of persons, then of places, hour by hour.
    y.type(1, ';');
    Checks.tell(y, 1, "09");
    for (int seed = -9; seed < 40; seed++) due("day(" + seed + ", NONE)", y.day(seed, NONE), hoursTogether(seed));
    due("day(2147483647, NONE)", y.day(Integer.MAX_VALUE, NONE), hoursTogether(Integer.MAX_VALUE));
    due("count(4): nothing was told", y.count(4), 0);
    due("day(1, 0): in hour 23", Checks.told("9o;3c", "09").day(1, 0), 3);
    OwnWeather w = Checks.told("0c;1c", "09");
    Checks.goings(w, 0, 0, 4, 0, 1, 5);
    due("day(1, NONE): lots are told behind goings", w.day(1, NONE), 24 - firstHourOfBoth(1));
    Checks.goings(w, 23, 0, 4, 23, 1, 5);
    due("day(1, NONE): a later hour counts", w.day(1, NONE), 23 - firstHourOfBoth(1));
    OwnWeather z = Checks.told("5o;6o", "");
    due("day(7, 1): no places", z.day(7, 1), 6);
    due("day(7, NONE): no places", z.day(7, NONE), 0);
    due("day(7, 2)", z.day(7, 2), BAD);
    due("day(7, -2)", z.day(7, -2), BAD);
    due("day(7, 0) of nobody", new OwnWeather().day(7, 0), BAD);
    due("day(7, NONE) of nobody", new OwnWeather().day(7, NONE), 0);
  }

  /** The first hour by which lots of 2 have moved both of two persons, with one place. */
  private static int firstHourOfBoth(int seed) {
    int lot = seed, moved = 0;
    for (int h = 0; h < 24; h++) {
      lot = lot * 1103515245 + 12345;
      moved |= 1 << (lot >>> 16) % 2;
      lot = lot * 1103515245 + 12345;
      if (moved == 3) return h;
    }
    return 24;
  }

  /** In how many hours two dark calm ones, moved by lots between two places, are together. */
  private static int hoursTogether(int seed) {
    int[] at = {0, 0};
    int lot = seed, hours = 0;
    for (int h = 0; h < 24; h++) {
      lot = lot * 1103515245 + 12345;
      int who = (lot >>> 16) % 2;
      lot = lot * 1103515245 + 12345;
      at[who] = (lot >>> 16) % 2;
      if (at[0] == at[1]) hours++;
    }
    return hours;
  }

  // ---- sheets

  private static void sheet() {
    OwnWeather x = new OwnWeather();
    due("sheet(0, 0, 60)", x.sheet(0, 0, 60), 60);
    due("sheet(3, 2, 0)", x.sheet(3, 2, 0), 0);
    due("get(0, 0, 59)", x.get(0, 0, 59), 0);
    for (int i = 0; i < 60; i++) x.lay(0, 0, i, 9);
    due("sheet(0, 0, 5)", x.sheet(0, 0, 5), 5);
    x.sheet(0, 0, 60);
    for (int i = 0; i < 60; i++) due("get(0, 0, " + i + ") of the new row", x.get(0, 0, i), 0);
    x.lay(0, 0, 3, 9);
    due("sheet(0, 0, 61)", x.sheet(0, 0, 61), BAD);
    due("sheet(4, 0, 1)", x.sheet(4, 0, 1), BAD);
    due("sheet(-1, 0, 1)", x.sheet(-1, 0, 1), BAD);
    due("sheet(0, 3, 1)", x.sheet(0, 3, 1), BAD);
    due("sheet(0, -1, 1)", x.sheet(0, -1, 1), BAD);
    due("sheet(0, 3, -1)", x.sheet(0, 3, -1), BAD);
    due("count(8)", x.count(8), 0);
    due("sheet(0, 1, -1)", x.sheet(0, 1, -1), SIZE);
    due("count(8)", x.count(8), 5);
    due("get(0, 0, 3) of the same row", x.get(0, 0, 3), 9);
  }

  private static void lose() {
    OwnWeather x = new OwnWeather();
    x.sheet(1, 1, 7);
    x.sheet(2, 1, 0);
    due("lose(-1)", x.lose(-1), BAD);
    due("lose(4)", x.lose(4), BAD);
    due("count(8)", x.count(8), 0);
    due("lose(1)", x.lose(1), 7);
    due("lose(1) again", x.lose(1), NULL);
    due("count(8)", x.count(8), 1);
    due("lose(2)", x.lose(2), 0);
    due("get(1, 1, 0)", x.get(1, 1, 0), LEAST);
  }

  private static void lay() {
    OwnWeather x = new OwnWeather();
    for (int form = 0; form < 3; form++) x.sheet(form, form, 2);
    int v = 0x12348FFE;
    int[] due = {-2, (short) 0x8FFE, v};
    for (int form = 0; form < 3; form++) {
      due("lay(" + form + ", ..)", x.lay(form, form, 1, v), 1);
      due("its lowest bits", x.get(form, form, 1), due[form]);
      due("the item beside it", x.get(form, form, 0), 0);
    }
    due("lay(4, 0, 0, 0)", x.lay(4, 0, 0, 0), BAD);
    due("lay(-1, 0, 0, 0)", x.lay(-1, 0, 0, 0), BAD);
    due("lay(0, 3, 0, 0)", x.lay(0, 3, 0, 0), BAD);
    due("lay(3, -1, 0, 0)", x.lay(3, -1, 0, 0), BAD);
    due("lay(3, 0, 0, 0)", x.lay(3, 0, 0, 0), NULL);
    due("lay(0, 1, 9, 0)", x.lay(0, 1, 9, 0), CAST);
    due("count(8)", x.count(8), 3);
    due("lay(0, 0, 2, 0)", x.lay(0, 0, 2, 0), INDEX);
    due("lay(0, 0, -1, 0)", x.lay(0, 0, -1, 0), INDEX);
    due("count(8)", x.count(8), 2);
    due("get(0, 0, 1) still", x.get(0, 0, 1), -2);
  }

  private static void get() {
    OwnWeather x = new OwnWeather();
    x.sheet(0, 2, 2);
    x.lay(0, 2, 1, 77);
    due("get(0, 2, 1)", x.get(0, 2, 1), 77);
    due("get(4, 2, 0)", x.get(4, 2, 0), LEAST);
    due("get(-1, 2, 0)", x.get(-1, 2, 0), LEAST);
    due("get(0, 3, 0)", x.get(0, 3, 0), LEAST);
    due("get(0, -1, 0)", x.get(0, -1, 0), LEAST);
    due("count(8): bad ones are no findings", x.count(8), 0);
    due("get(1, 2, 0)", x.get(1, 2, 0), LEAST);
    due("count(8)", x.count(8), 1);
    due("get(0, 1, 2)", x.get(0, 1, 2), LEAST);
    due("count(8)", x.count(8), 3);
    due("get(0, 2, 2)", x.get(0, 2, 2), LEAST);
    due("count(8)", x.count(8), 2);
    x.get(1, 2, 0);
    due("get(0, 2, -1)", x.get(0, 2, -1), LEAST);
    due("count(8)", x.count(8), 2);
  }

  private static void copy() {
    OwnWeather x = new OwnWeather();
    x.sheet(0, 1, 5);
    x.sheet(1, 1, 3);
    x.sheet(2, 2, 5);
    for (int i = 0; i < 5; i++) x.lay(0, 1, i, 10 + i);
    due("copy(0, 2, 1, 0, 3)", x.copy(0, 2, 1, 0, 3), 1);
    for (int i = 0; i < 3; i++) due("get(1, 1, " + i + ")", x.get(1, 1, i), 12 + i);
    due("copy(0, 0, 0, 1, 4): as they were", x.copy(0, 0, 0, 1, 4), 1);
    int[] due = {10, 10, 11, 12, 13};
    for (int i = 0; i < 5; i++) due("get(0, 1, " + i + ")", x.get(0, 1, i), due[i]);
    due("copy(0, 5, 1, 3, 0)", x.copy(0, 5, 1, 3, 0), 1);
    int[][] index = {{0, 6, 1, 0, 0}, {0, 0, 1, 4, 0}, {0, -1, 1, 0, 1}, {0, 0, 1, -1, 1}, {0, 0, 1, 0, -1},
        {0, 3, 1, 0, 3}, {0, 0, 1, 1, 3}, {0, 1, 1, 0, Integer.MAX_VALUE}, {0, Integer.MAX_VALUE, 1, 0, 1}};
    for (int[] c : index) due("a copy past the end", x.copy(c[0], c[1], c[2], c[3], c[4]), INDEX);
    due("count(8)", x.count(8), 2);
    due("copy(0, 0, 2, 0, 9)", x.copy(0, 0, 2, 0, 9), STORE);
    due("count(8)", x.count(8), 4);
    due("copy(0, 9, 3, 0, 1)", x.copy(0, 9, 3, 0, 1), NULL);
    due("copy(3, 9, 0, 0, 1)", x.copy(3, 9, 0, 0, 1), NULL);
    due("copy(3, 0, 4, 0, 1)", x.copy(3, 0, 4, 0, 1), BAD);
    due("copy(-1, 0, 0, 0, 1)", x.copy(-1, 0, 0, 0, 1), BAD);
    due("count(8)", x.count(8), 1);
    for (int i = 0; i < 5; i++) due("get(0, 1, " + i + ") still", x.get(0, 1, i), due[i]);
  }

  private static void write() {
    OwnWeather x = Checks.told("8o;2h;4c", "45");
    x.sheet(0, 0, 5);
    x.sheet(1, 2, 2);
    for (int i = 0; i < 5; i++) x.lay(0, 0, i, 50);
    due("write(1, 0)", x.write(1, 0), 3);
    int[] due = {7, 3, 4, 50, 50};
    for (int i = 0; i < 5; i++) due("get(0, 0, " + i + ")", x.get(0, 0, i), due[i]);
    due("write(0, 1)", x.write(0, 1), 2);
    due("get(1, 2, 0)", x.get(1, 2, 0), 8);
    due("get(1, 2, 1)", x.get(1, 2, 1), 2);
    due("write(24, 0)", x.write(24, 0), BAD);
    due("write(-1, 0)", x.write(-1, 0), BAD);
    due("write(0, 4)", x.write(0, 4), BAD);
    due("write(24, 2)", x.write(24, 2), BAD);
    due("count(8)", x.count(8), 0);
    due("write(0, 2)", x.write(0, 2), NULL);
    due("count(8)", x.count(8), 1);
    x.wipe(0);
    due("write(0, 0) of nobody", x.write(0, 0), 0);
  }

  private static void count() {
    OwnWeather x = Checks.told("8o;2h;4c", "45;09");
    x.go(0, 0, 0);
    x.seen(0, 0, 0);
    x.seen(0, 0, 0);
    x.fog(0, 0, 0);
    x.fog(0, 0, 0);
    x.fog(0, 0, 0);
    x.copy(0, 0, 0, 0, 0);
    int[] due = {3, 2, 8, 5, 1, 2, 3, 14, 1};
    for (int what = 0; what < 9; what++) due("count(" + what + ")", x.count(what), due[what]);
    due("count(9)", x.count(9), BAD);
    due("count(-1)", x.count(-1), BAD);
    x.sheet(0, 0, -3);
    due("count(8)", x.count(8), 5);
    x.sheet(0, 0, 3);
    due("count(8): the latest", x.count(8), 5);
  }

  private static void digest() {
    long[] of = {0, 0, 0, 0, 0, 0, 0, 0, NONE, NONE, 0, 0, 0, 0, NONE, NONE, 0, 0, 0, BAD};
    long h = 17;
    for (long v : of) h = 31 * h + v;
    OwnWeather x = new OwnWeather();
    due("digest() of a new object", x.digest(), h);
    // One of 6, and a calm one of 2 at the second place, which wants 0 to 2.
    x = Checks.told("6o;2c", "55;02");
    x.go(0, 1, 1);
    x.fog(0, 1, 1);
    h = 17;
    for (long v : new long[] {2, 2, 5, 5, 1, 0, 1, 8, NONE, NONE}) h = 31 * h + v;
    for (int hour = 0; hour < 4; hour++)
      for (long v : new long[] {2, 0, 6, 1, 2, 1, 6, 1, 2, 2, 1}) h = 31 * h + v;
    for (long v : new long[] {(1 << 24) - 1, NONE, NONE, 0, 0, 0, 0, 0, 1, NONE}) h = 31 * h + v;
    for (long v : new long[] {0, 0, 0, NONE, NONE, 0, 1, 1, 1, 0}) h = 31 * h + v;
    for (long v : new long[] {1023, 1023, NONE, NONE, 0, 2, x.day(7, NONE), x.day(7, 0)}) h = 31 * h + v;
    due("digest()", x.digest(), h);
    due("digest() again", x.digest(), h);
    x.sheet(0, 0, 3);
    x.get(0, 0, 9);
    due("digest() after a finding", x.digest(), h);
    int[] more = {0, 3, 1, 0, 4, 2, 1, 5, 3, 1, 6, 4, 2, 0, 4, 3, 7, 3, 4, 2, 1, 6, 5, 4, 20, 1, 5};
    for (int k = 0; k <= more.length / 3; k++) {
      OwnWeather y = withGoings(java.util.Arrays.copyOf(more, 3 * k));
      due("digest() with " + k + " goings", y.digest(), Digests.byCalls(y));
    }
    OwnWeather y = withGoings(more);
    y.seen(1, 0, y.bright(1, 0));
    due("digest() with one seen", y.digest(), Digests.byCalls(y));
    y = withGoings(more);
    y.fog(2, 4, 1);
    due("digest() with fog", y.digest(), Digests.byCalls(y));
    y = withGoings(more);
    y.undo(1);
    due("digest() with a faulty text", y.digest(), Digests.byCalls(y));
  }

  private static OwnWeather withGoings(int[] triples) {
    OwnWeather x = Checks.told("9o;2h;5c;1o;0o;7o;8h;3c", "47;02;79;36;55");
    Checks.goings(x, triples);
    return x;
  }
}
