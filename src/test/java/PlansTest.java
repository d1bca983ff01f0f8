import java.math.BigInteger;

/** The document's sentences on plans, what was seen, news, days, sheets and the digest that name a boundary case. */
public final class PlansTest {
  private static final Checks CHECKS = new Checks("sentences on plans, news and sheets");
  private static final int NONE = Checks.NONE, BAD = Checks.BAD, FULL = Checks.FULL;
  private static final int NULL = Checks.NULL, INDEX = Checks.INDEX, CAST = Checks.CAST, LEAST = Checks.LEAST;
  private static final String STORMS = "0c;0c;0c;0c;0c;0c;0c;0c", SUNS = "9o;9o;9o;9o;9o;9o;9o;9o";

  public static void main(String[] args) {
    sending();
    sentGoings();
    keeping();
    rows();
    seeing();
    fogs();
    newsByChance();
    chances();
    roofs();
    days();
    lots();
    sheets();
    layings();
    copies();
    writings();
    counts();
    digests();
    CHECKS.end();
  }

  // ---- plans

  private static void send(OwnWeather x, int place, int hour, int many, int bits) {
    CHECKS.due("send(" + place + ", " + hour + ", 0)", x.send(place, hour, 0), many);
    CHECKS.due("send(" + place + ", " + hour + ", 1)", x.send(place, hour, 1), bits);
  }

  private static void sending() {
    CHECKS.under("SEND: the fewest PERSONS: none, if its TASK is MET");
    send(Checks.told("5c", "55"), 0, 0, 0, 0);
    send(Checks.told(SUNS, "99;99"), 0, 23, 0, 0);
    CHECKS.under("SEND: the fewest PERSONS, up to all of them");
    send(Checks.told("9c;9c;9c;9c;9c;9c;9c;1c", "09;88"), 1, 0, 8, 255);
    send(Checks.told("9c;1c;1c;9c;5c", "09;55"), 1, 0, 1, 16);
    CHECKS.under("SEND: of like ones the least bits");
    send(Checks.told("2c;9c;9c;9c", "09;99"), 1, 0, 1, 2);
    send(Checks.told("4c;6c;3c;7c", "09;55"), 1, 0, 2, 3);
    send(Checks.told("3c;4c;6c;7c", "09;55"), 1, 0, 2, 6);
    send(Checks.told("1c;2c;8c;9c", "09;55"), 1, 0, 2, 6);
    CHECKS.under("SEND: NONE");
    send(Checks.told("4c;4c", "09;55"), 1, 0, NONE, NONE);
    send(Checks.told("", "09"), 0, 0, NONE, NONE);
    CHECKS.under("SEND: of those that are not there in HOUR 0: who is there cannot be kept from it");
    OwnWeather x = Checks.told("9c;1c;5c", "09;55");
    x.go(0, 0, 1);
    send(x, 1, 0, 1, 2);
    x.go(0, 1, 1);
    send(x, 1, 0, 0, 0);
    x.go(0, 2, 1);
    send(x, 1, 0, 0, 0);
    x = Checks.told("9c;2c", "09;22");
    x.go(0, 0, 1);
    send(x, 1, 0, NONE, NONE);
    CHECKS.under("SEND: one that is nowhere in HOUR 0 is not there");
    x = Checks.told("9c", "09;99");
    x.go(0, 0, 5);
    send(x, 1, 0, 1, 1);
    CHECKS.under("SEND: so that its TASK is MET in a told HOUR");
    x = Checks.told("9o;5c", "09;66");
    send(x, 1, 0, NONE, NONE);
    send(x, 1, 1, NONE, NONE);
    send(x, 1, 2, 2, 3);
    send(x, 1, 3, NONE, NONE);
    CHECKS.under("SEND: sent in HOUR 0, they are brightened by none but those");
    x = Checks.told("7o;9c;9c", "00;77;99");
    send(x, 1, 23, 1, 1);
  }

  private static void sentGoings() {
    CHECKS.under("SEND: a GOING told last, each: it counts ahead of one of HOUR 0, not of a later one");
    OwnWeather x = Checks.told("9c;1c", "09;99;09");
    Checks.goings(x, 0, 0, 2, 7, 0, 0);
    send(x, 1, 0, 1, 1);
    send(x, 1, 6, 1, 1);
    send(x, 1, 7, NONE, NONE);
    CHECKS.under("SEND: who comes later comes anyhow");
    x = Checks.told("9c;1c", "09;55");
    x.go(1, 1, 1);
    send(x, 1, 0, 2, 3);
    send(x, 1, 1, 1, 1);
    CHECKS.under("SEND: though there are 20 GOINGS, and it tells none");
    x = Checks.told("9c", "09;99");
    for (int k = 0; k < 20; k++) x.go(0, 0, 0);
    send(x, 1, 23, 1, 1);
    CHECKS.due("count(4)", x.count(4), 20);
    CHECKS.due("where(0, 0)", x.where(0, 0), 0);
    CHECKS.due("met(0)", x.met(0), 1);
  }

  private static void keep(OwnWeather x, int hour, int bright, int many, int bits) {
    CHECKS.due("keep(0, " + hour + ", " + bright + ", 0)", x.keep(0, hour, bright, 0), many);
    CHECKS.due("keep(0, " + hour + ", " + bright + ", 1)", x.keep(0, hour, bright, 1), bits);
  }

  private static void keeping() {
    CHECKS.under("KEEP: the SKY over those that are left is as much as told (0 to 9), or more");
    keep(Checks.told("4c;6c", "09"), 0, 5, 0, 0);
    keep(Checks.told("4c;5c", "09"), 0, 5, 1, 1);
    keep(Checks.told("5c;5c;5c;5c;5c;5c;5c;4c", "09"), 0, 5, 1, 128);
    keep(Checks.told(STORMS, "09"), 0, 0, 0, 0);
    keep(Checks.told("9c", "09"), 0, 9, 0, 0);
    CHECKS.under("KEEP: the fewest PERSONS");
    keep(Checks.told("0c;4c;9c;9c", "09"), 0, 7, 1, 1);
    keep(Checks.told("8c;8c;8c;8c;8c;8c;8c;9c", "09"), 0, 9, 7, 127);
    CHECKS.under("KEEP: of like ones the least bits");
    keep(Checks.told("9c;3c;3c;3c", "09"), 0, 5, 1, 2);
    keep(Checks.told("9c;3c;3c;3c", "09"), 0, 6, 2, 6);
    keep(Checks.told("3c;9c;2c;9c", "09"), 0, 6, 1, 1);
    CHECKS.under("KEEP: (one at least); NONE");
    keep(Checks.told("8c;8c", "09"), 0, 9, NONE, NONE);
    keep(Checks.told("", "09"), 0, 0, NONE, NONE);
    OwnWeather x = Checks.told("9c;9c", "09;09");
    Checks.goings(x, 5, 0, 1, 5, 1, 1);
    keep(x, 4, 0, 0, 0);
    keep(x, 5, 0, NONE, NONE);
    CHECKS.under("KEEP: (of those that are there)");
    x = Checks.told("0c;1c;9c", "09;09");
    x.go(0, 0, 1);
    keep(x, 0, 9, 1, 2);
    CHECKS.under("KEEP: nowhere in a told HOUR alone: they are as BRIGHT as with all");
    x = Checks.told("9o;3c", "09");
    keep(x, 0, 9, 1, 2);
    keep(x, 2, 7, 1, 2);
    keep(x, 2, 8, NONE, NONE);
    keep(x, 23, 3, 0, 0);
    keep(x, 23, 4, NONE, NONE);
  }

  private static void row(OwnWeather x, int much, int... persons) {
    CHECKS.due("row(0, 0, NONE)", x.row(0, 0, NONE), much);
    for (int i = 0; i < 8; i++)
      CHECKS.due("row(0, 0, " + i + ")", x.row(0, 0, i), i < persons.length ? persons[i] : NONE);
  }

  private static void rows() {
    CHECKS.under("ROW: of none: NONE, 0");
    row(Checks.told("", "09"), 0);
    CHECKS.under("ROW: of one: what neighbours are unlike is 0");
    row(Checks.told("9c", "09"), 0, 0);
    CHECKS.under("ROW: of eight, so that what neighbours are unlike in BRIGHTNESS is least together");
    row(Checks.told("0c;9c;1c;8c;2c;7c;3c;6c", "09"), 9, 0, 2, 4, 6, 7, 5, 3, 1);
    row(Checks.told("9c;0c;1c;8c;2c;7c;3c;6c", "09"), 9, 0, 3, 5, 7, 6, 4, 2, 1);
    CHECKS.under("ROW: of like ones the least row");
    row(Checks.told("5c;5c;5c;5c;5c;5c;5c;5c", "09"), 0, 0, 1, 2, 3, 4, 5, 6, 7);
    row(Checks.told("5c;9c;5c;1c", "09"), 8, 1, 0, 2, 3);
    row(Checks.told("5c;1c;5c;9c", "09"), 8, 1, 0, 2, 3);
    row(Checks.told("4c;3c;4c;3c", "09"), 1, 0, 2, 1, 3);
    CHECKS.under("ROW of those at a PLACE in an HOUR: the others are not in it");
    OwnWeather x = Checks.told("5c;9c;1c;3c", "09;09");
    Checks.goings(x, 0, 1, 1, 0, 2, 4);
    row(x, 2, 0, 3);
    CHECKS.due("row(0, 1, 0)", x.row(0, 1, 0), 1);
    CHECKS.due("row(0, 1, 1)", x.row(0, 1, 1), NONE);
    CHECKS.due("row(0, 1, NONE)", x.row(0, 1, NONE), 0);
    CHECKS.under("ROW: by how BRIGHT they are in that HOUR");
    x = Checks.told("9o;5c;6c", "09;09");
    x.go(0, 1, 1);
    CHECKS.due("row(0, 0, NONE)", x.row(0, 0, NONE), 3);
    CHECKS.due("row(23, 0, NONE)", x.row(23, 0, NONE), 0);
    CHECKS.under("ROW: (0 to 7; NONE)");
    CHECKS.due("row(0, 0, 7)", x.row(0, 0, 7), NONE);
    CHECKS.due("row(0, 0, 8)", x.row(0, 0, 8), BAD);
    CHECKS.due("row(0, 0, -2)", x.row(0, 0, -2), BAD);
  }

  // ---- seen, fogs, news

  private static void seeing() {
    CHECKS.under("SEEN, 8 at most");
    OwnWeather x = Checks.told("5c", "09");
    for (int k = 1; k <= 8; k++) CHECKS.due("seen " + k, x.seen(k, 0, 5), k);
    CHECKS.due("seen 9", x.seen(9, 0, 4), FULL);
    CHECKS.due("may(0): by eight", x.may(0), 32);
    CHECKS.due("forget(0)", x.forget(0), 8);
    CHECKS.due("forget(0) of none", x.forget(0), 0);
    for (int k = 1; k <= 7; k++) x.seen(k, 0, 5);
    CHECKS.due("seen 8", x.seen(23, 0, 4), 8);
    CHECKS.due("may(0): the eighth counts", x.may(0), 0);
    CHECKS.under("in an HOUR a PERSON (0 to 7) was so BRIGHT (0 to 9), whether there is one or not");
    x = new OwnWeather();
    CHECKS.due("seen(23, 7, 9)", x.seen(23, 7, 9), 1);
    CHECKS.due("seen(0, 0, 0)", x.seen(0, 0, 0), 2);
    CHECKS.due("seen(0, 8, 0)", x.seen(0, 8, 0), BAD);
    CHECKS.due("seen(0, 0, 10)", x.seen(0, 0, 10), BAD);
    CHECKS.under("MAY: nothing SEEN, all of 0 to 9");
    CHECKS.due("may(0)", Checks.told("5o", "09").may(0), 1023);
    CHECKS.due("may(7)", Checks.told(Checks.EIGHT, "").may(7), 1023);
    CHECKS.under("MAY: in place of what is told");
    x = Checks.told("5o;5c", "");
    x.seen(0, 0, 0);
    CHECKS.due("may(0): 0", x.may(0), 1);
    CHECKS.due("may(1): the other is told otherwise", x.may(1), 0);
    x.forget(0);
    x.seen(23, 1, 9);
    CHECKS.due("may(1): a calm one, 9", x.may(1), 512);
    CHECKS.due("person(1, 0): as told", x.person(1, 0), 5);
    CHECKS.due("bright(0, 1): as told", x.bright(0, 1), 5);
    CHECKS.under("MAY: so that all that was SEEN comes out so, by how it would have gone");
    x = Checks.told("5o;1c;9c", "09;09");
    x.go(0, 2, 1);
    x.seen(1, 0, 0);
    CHECKS.due("may(0): 0 or 1, by lightning", x.may(0), 3);
    x.seen(0, 0, 1);
    CHECKS.due("may(0): 1", x.may(0), 2);
    CHECKS.under("MAY: a PERSON SEEN that there is not: nothing comes out so");
    for (int v = 0; v <= 9; v++) {
      x = Checks.told("5o;7c", "09");
      CHECKS.due("may(1)", x.may(1), 1023);
      for (int k = 0; k < 3; k++) x.undo(0);
      x.seen(0, 1, v);
      CHECKS.due("may(0)", x.may(0), 0);
    }
  }

  private static void fogs() {
    CHECKS.under("FOGS, 8 at most");
    OwnWeather x = Checks.told("5o;5h", "09;09");
    x.go(5, 1, 1);
    for (int k = 1; k <= 8; k++) CHECKS.due("fog " + k, x.fog(0, 0, 1), k);
    CHECKS.due("fog 9", x.fog(0, 0, 0), FULL);
    CHECKS.due("hid(): by eight", x.hid(), 3);
    CHECKS.due("forget(1)", x.forget(1), 8);
    CHECKS.due("forget(1) of none", x.forget(1), 0);
    for (int k = 1; k <= 7; k++) x.fog(0, 0, 1);
    CHECKS.due("fog 8", x.fog(23, 1, 1), 8);
    CHECKS.due("hid(): the eighth counts", x.hid(), 2);
    CHECKS.under("forget: SEEN alone, FOGS alone");
    x.seen(0, 0, 5);
    CHECKS.due("forget(0)", x.forget(0), 1);
    CHECKS.due("count(6)", x.count(6), 8);
    x.seen(0, 0, 5);
    CHECKS.due("forget(1)", x.forget(1), 8);
    CHECKS.due("count(5)", x.count(5), 1);
    CHECKS.under("FOG at a PLACE (0 to 5; 1), or none (0), whether there is one or not");
    x = new OwnWeather();
    CHECKS.due("fog(23, 5, 1)", x.fog(23, 5, 1), 1);
    CHECKS.due("fog(0, 6, 1)", x.fog(0, 6, 1), BAD);
    CHECKS.due("fog(0, 5, 2)", x.fog(0, 5, 2), BAD);
    CHECKS.under("HID: nothing told: each; of nobody: none");
    CHECKS.due("of eight", Checks.told(Checks.EIGHT, "").hid(), 255);
    CHECKS.due("of nobody", new OwnWeather().hid(), 0);
    CHECKS.under("HID: who may be the only one, whatever is told of it");
    x = Checks.told("5o;5h;5c", "09;09");
    x.go(0, 2, 1);
    x.fog(0, 0, 1);
    CHECKS.due("hid(): there", x.hid(), 3);
    x.fog(0, 1, 0);
    CHECKS.due("hid(): not at the other", x.hid(), 3);
    x.forget(1);
    x.fog(0, 0, 0);
    CHECKS.due("hid(): not there", x.hid(), 4);
    CHECKS.under("HID: in one HOUR at two places is nobody");
    x.fog(0, 1, 1);
    CHECKS.due("hid()", x.hid(), 4);
    x.fog(0, 0, 1);
    CHECKS.due("hid()", x.hid(), 0);
  }

  private static void news(OwnWeather x, int c, int place, int hour, long above, long below) {
    CHECKS.due("news(" + c + ", " + place + ", " + hour + ", 0)", x.news(c, place, hour, 0), above);
    CHECKS.due("news(" + c + ", " + place + ", " + hour + ", 1)", x.news(c, place, hour, 1), below);
  }

  private static void newsByChance() {
    CHECKS.under("NEWS: it is 3 less BRIGHT in HOUR 0 (0 at least)");
    int[] after = {0, 0, 0, 0, 1, 2, 3, 4, 5, 6};
    for (int v = 0; v <= 9; v++) news(Checks.told(v + "o", "" + after[v] + after[v]), 16, 0, 0, 1, 1);
    CHECKS.under("NEWS: by c sixteenths (0 to 16)");
    news(Checks.told("9o", "99"), 0, 0, 0, 1, 1);
    news(Checks.told("9o", "66"), 0, 0, 0, 0, 1);
    news(Checks.told("9o", "66"), 1, 0, 0, 1, 16);
    news(Checks.told("9o", "99"), 1, 0, 0, 15, 16);
    news(Checks.told("9o", "66"), 15, 0, 0, 15, 16);
    news(Checks.told("9o", "66"), 8, 0, 0, 1, 2);
    news(Checks.told("9o", "99"), 16, 0, 0, 0, 1);
    news(Checks.told("9o", "66"), 16, 0, 0, 1, 1);
    CHECKS.under("NEWS: each PERSON that is not dead calm");
    news(Checks.told("9h", "66"), 4, 0, 0, 1, 4);
    news(Checks.told("9c", "66"), 16, 0, 0, 0, 1);
    news(Checks.told("9c", "99"), 16, 0, 0, 1, 1);
    news(Checks.told("9c;9o", "99"), 4, 0, 0, 3, 4);
    news(Checks.told("6c;9o;0c", "44"), 4, 0, 0, 1, 4);
    CHECKS.under("NEWS: by itself: each apart from the others");
    news(Checks.told("9o;9o", "99"), 4, 0, 0, 9, 16);
    news(Checks.told("9o;9o", "78"), 4, 0, 0, 3, 8);
    news(Checks.told("9o;9o", "66"), 4, 0, 0, 1, 16);
  }

  private static void chances() {
    CHECKS.under("NEWS of eight: the terms may be larger than an int");
    news(Checks.told(SUNS, "99"), 1, 0, 0, 2562890625L, 4294967296L);
    news(Checks.told(SUNS, "66"), 1, 0, 0, 1, 4294967296L);
    news(Checks.told(SUNS, "69"), 1, 0, 0, 1, 1);
    // Not if none, one or two of eight have bad news: 1, 8 times 15, 28 times 225 cases.
    news(Checks.told(SUNS, "68"), 15, 0, 0, 4294967296L - 1 - 120 - 6300, 4294967296L);
    CHECKS.under("NEWS: the chance that the TASK of a PLACE is MET: 0 by 1 where nobody is");
    news(Checks.told("9o", "09;09"), 8, 1, 0, 0, 1);
    news(Checks.told("", "09"), 8, 0, 0, 0, 1);
    CHECKS.under("NEWS: in an HOUR, by how it goes from HOUR 0 on");
    OwnWeather x = Checks.told("4o;1c", "00;11");
    news(x, 4, 0, 1, 0, 1);
    // Of 4 it is 1 in hour 3, of 1 in hour 0: then there is lightning, and it is 0.
    x = Checks.told("4o;0c", "00");
    news(x, 4, 0, 0, 0, 1);
    news(x, 4, 0, 1, 1, 4);
    news(x, 4, 0, 3, 1, 4);
    news(x, 4, 0, 4, 1, 1);
    news(x, 4, 0, 23, 1, 1);
    CHECKS.under("NEWS: by what is told now, not what was told when it was asked before");
    x.go(0, 0, 1);
    news(x, 4, 0, 4, 1, 1);
    Checks.tell(x, 1, ";11");
    news(x, 4, 1, 0, 1, 4);
    x.back();
    news(x, 4, 1, 0, 0, 1);
    news(x, 4, 0, 1, 1, 4);
    CHECKS.under("NEWS changes nothing that is told");
    CHECKS.due("bright(0, 0)", x.bright(0, 0), 4);
    CHECKS.due("person(0, 0)", x.person(0, 0), 4);
  }

  private static void roofs() {
    CHECKS.under("ROOF: the least HOUR from a told one on in which that chance is 1");
    OwnWeather x = Checks.told("4o;0c", "00;09");
    CHECKS.due("roof(4, 0, 0)", x.roof(4, 0, 0), 4);
    CHECKS.due("roof(4, 0, 4)", x.roof(4, 0, 4), 4);
    CHECKS.due("roof(4, 0, 5)", x.roof(4, 0, 5), 5);
    CHECKS.due("roof(4, 0, 23)", x.roof(4, 0, 23), 23);
    CHECKS.under("ROOF: by c of 0 and 16 it is sure, who has bad news");
    CHECKS.due("roof(0, 0, 0)", x.roof(0, 0, 0), 4);
    CHECKS.due("roof(16, 0, 0)", x.roof(16, 0, 0), 1);
    CHECKS.due("roof(15, 0, 0)", x.roof(15, 0, 0), 4);
    CHECKS.due("roof(1, 0, 0)", x.roof(1, 0, 0), 4);
    CHECKS.under("ROOF: NONE");
    CHECKS.due("roof(4, 1, 0): nobody is there", x.roof(4, 1, 0), NONE);
    CHECKS.due("never", Checks.told("5c", "66").roof(4, 0, 0), NONE);
    CHECKS.due("likely, never sure", Checks.told("9o", "99").roof(1, 0, 0), NONE);
    CHECKS.due("in hour 0 alone, and not sure", Checks.told("9o;3c", "66").roof(8, 0, 0), NONE);
    CHECKS.due("of nobody", Checks.told("", "09").roof(16, 0, 0), NONE);
    CHECKS.under("ROOF: in an HOUR before, in HOUR 23 alone");
    x = Checks.told("9c;1c", "99;09");
    Checks.goings(x, 0, 1, 1, 1, 1, 0, 23, 1, 1);
    CHECKS.due("roof(4, 0, 0)", x.roof(4, 0, 0), 0);
    CHECKS.due("roof(4, 0, 1)", x.roof(4, 0, 1), 23);
    x.back();
    CHECKS.due("roof(4, 0, 1): never again", x.roof(4, 0, 1), NONE);
  }

  // ---- days

  private static void days() {
    CHECKS.under("DAY: in how many HOURS there was LIGHTNING: from none to all 24");
    CHECKS.due("none", Checks.told("2c;2c", "09").day(7, NONE), 0);
    CHECKS.due("all", Checks.told("1c;1c", "09").day(7, NONE), 24);
    CHECKS.due("HOURS, not places", Checks.told(STORMS, "09;09").day(7, NONE), 24);
    CHECKS.under("DAY: by PERSONS and PLACES that there are, else none");
    CHECKS.due("nobody", Checks.told("", "09").day(7, NONE), 0);
    CHECKS.due("nobody", Checks.told("", "09").day(7, 0), BAD);
    CHECKS.due("no places", Checks.told("0o;0o", "").day(7, NONE), 0);
    CHECKS.due("no places", Checks.told("0o;3o", "").day(7, 1), 3);
    CHECKS.under("DAY: how BRIGHT a PERSON is in HOUR 23; of each that there is");
    OwnWeather x = Checks.told("8o;9c", "09");
    CHECKS.due("day(7, 0)", x.day(7, 0), 9);
    CHECKS.due("day(7, 1)", x.day(7, 1), 9);
    CHECKS.due("day(7, 2)", x.day(7, 2), BAD);
    CHECKS.under("DAY: as a GOING of that HOUR told last");
    x = Checks.told("0c;0c", "09");
    Checks.goings(x, 0, 0, 5, 0, 1, 5);
    for (int seed = 0; seed < 20; seed++)
      CHECKS.due("day(" + seed + ", NONE): when each was drawn once", x.day(seed, NONE), 24 - hourOfBoth(seed));
    Checks.goings(x, 20, 0, 5, 20, 1, 5);
    for (int seed = 0; seed < 20; seed++) {
      int until = Math.min(hourOfBoth(seed), 20), from = Math.max(hourOfBoth(seed, 20), 20);
      CHECKS.due("day(" + seed + ", NONE): gone in hour 20", x.day(seed, NONE), 20 - until + 24 - from);
    }
    CHECKS.under("DAY: 20 GOINGS are no bound to it, and it tells none");
    x = Checks.told("0o;9c", "09");
    for (int h = 0; h < 20; h++) x.go(0, 0, 5);
    CHECKS.due("day(7, 0)", x.day(7, 0), 9);
    CHECKS.due("count(4)", x.count(4), 20);
    CHECKS.due("where(23, 0)", x.where(23, 0), NONE);
    CHECKS.due("day(7, 0) again", x.day(7, 0), 9);
  }

  private static int hourOfBoth(int seed) { return hourOfBoth(seed, 0); }

  /** The hour, of those from one on, in which the lots have told both of two persons; 24 if they have not. */
  private static int hourOfBoth(int seed, int from) {
    BigInteger s = BigInteger.valueOf(seed);
    int told = 0;
    for (int h = 0; h < 24; h++) {
      s = next(s);
      if (h >= from) told |= 1 << lot(s, 2);
      if (told == 3) return h;
      s = next(s);
    }
    return 24;
  }

  private static final BigInteger TURN = BigInteger.ONE.shiftLeft(32);

  /** The next seed, from 0 to 2 to the 32 less 1: numbers without bounds, wrapped at the end. */
  private static BigInteger next(BigInteger seed) {
    return seed.multiply(BigInteger.valueOf(1103515245)).add(BigInteger.valueOf(12345)).mod(TURN);
  }

  private static int lot(BigInteger seed, int m) { return seed.shiftRight(16).mod(BigInteger.valueOf(m)).intValue(); }

  private static void lots() {
    int[] seeds = {0, 1, -1, 7, 12345, 65535, 65536, -65536, 1 << 30, Integer.MAX_VALUE, Integer.MIN_VALUE};
    CHECKS.under("LOTS of m: .. as ints that wrap; its upper 16 bits as a number from 0 on, modulo m");
    for (int seed : seeds)
      for (int persons = 1; persons <= 8; persons++)
        for (int places = 1; places <= 6; places++) {
          OwnWeather x = Checks.told(STORMS.substring(0, 3 * persons - 1), Checks.SIX.substring(0, 3 * places - 1));
          CHECKS.due("day(" + seed + ", NONE) of " + persons + " and " + places, x.day(seed, NONE),
              stormyHours(seed, persons, places));
        }
    CHECKS.under("DAY: a LOT of PERSONS, then a LOT of PLACES: that one is there from then on");
    int compared = 0;
    for (int seed = -40; seed < 40; seed++) {
      OwnWeather x = Checks.told("9o;2h;5c;1o", "09;09"), y = Checks.told("9o;2h;5c;1o", "09;09");
      if (!goAsByLots(y, seed)) continue;
      compared++;
      for (int p = 0; p < 4; p++) CHECKS.due("day(" + seed + ", " + p + ")", x.day(seed, p), y.bright(23, p));
    }
    CHECKS.must("days were compared", compared > 40);
    CHECKS.under("DAY: a LOT is drawn of one PERSON, of one PLACE too");
    OwnWeather x = Checks.told("0o;9c", "09;09");
    for (int seed : seeds) {
      OwnWeather y = Checks.told("0o;9c", "09;09");
      if (goAsByLots(y, seed)) CHECKS.due("day(" + seed + ", 0)", x.day(seed, 0), y.bright(23, 0));
    }
    CHECKS.due("one person among two places stays as it was", Checks.told("5o", "09;09").day(7, 0), 5);
  }

  /** In how many hours two at least of so many dark calm ones are together. */
  private static int stormyHours(int seed, int persons, int places) {
    int[] at = new int[persons];
    int hours = 0;
    BigInteger s = BigInteger.valueOf(seed);
    for (int h = 0; h < 24; h++) {
      s = next(s);
      int who = lot(s, persons);
      s = next(s);
      at[who] = lot(s, places);
      int[] heads = new int[places];
      boolean isStormy = false;
      for (int q : at) isStormy |= ++heads[q] >= 2;
      if (isStormy) hours++;
    }
    return hours;
  }

  /** Tells the day's lots as goings, but for those that move nobody; false if there are too many for 20 goings. */
  private static boolean goAsByLots(OwnWeather x, int seed) {
    int[] at = new int[x.count(0)];
    BigInteger s = BigInteger.valueOf(seed);
    for (int h = 0; h < 24; h++) {
      s = next(s);
      int who = lot(s, x.count(0));
      s = next(s);
      int to = lot(s, x.count(1));
      if (to != at[who] && x.go(h, who, to) == FULL) return false;
      at[who] = to;
    }
    return true;
  }

  // ---- sheets

  private static void sheets() {
    CHECKS.under("SHEETS 0 .. 3 are LOST (at first)");
    OwnWeather x = new OwnWeather();
    for (int s = 0; s < 4; s++) {
      for (int form = 0; form < 3; form++) {
        CHECKS.due("lay of a lost one", x.lay(s, form, 0, 1), NULL);
        CHECKS.due("get of a lost one", x.get(s, form, 0), LEAST);
      }
      CHECKS.due("lose of a lost one", x.lose(s), NULL);
      CHECKS.due("write to a lost one", x.write(0, s), NULL);
      CHECKS.due("copy of a lost one", x.copy(s, 0, s, 0, 0), NULL);
    }
    CHECKS.under("a row of a FORM .. of 0 to 60 items (0 at first)");
    for (int s = 0; s < 4; s++)
      for (int form = 0; form < 3; form++)
        for (int n : new int[] {0, 1, 59, 60}) {
          x = new OwnWeather();
          CHECKS.due("sheet of " + n, x.sheet(s, form, n), n);
          for (int i = 0; i < n; i++) CHECKS.due("item " + i, x.get(s, form, i), 0);
          CHECKS.due("count(8)", x.count(8), 0);
          CHECKS.due("item " + n, x.get(s, form, n), LEAST);
          CHECKS.due("count(8)", x.count(8), 2);
          CHECKS.due("lose", x.lose(s), n);
        }
    CHECKS.under("A SHEET is a new row: what was in it is gone, its FORM too");
    Checks.items(x, 0, 2, 1, 2, 3);
    CHECKS.due("sheet(0, 2, 3)", x.sheet(0, 2, 3), 3);
    for (int i = 0; i < 3; i++) CHECKS.due("item " + i, x.get(0, 2, i), 0);
    Checks.items(x, 0, 2, 1, 2, 3);
    x.sheet(0, 2, 1);
    CHECKS.due("item 1 of a shorter one", x.lay(0, 2, 1, 5), INDEX);
    x.sheet(0, 0, 3);
    CHECKS.due("of another form", x.lay(0, 2, 0, 5), CAST);
    for (int i = 0; i < 3; i++) CHECKS.due("item " + i, x.get(0, 0, i), 0);
    Checks.items(x, 0, 2, 1, 2, 3);
    x.lose(0);
    x.sheet(0, 2, 3);
    for (int i = 0; i < 3; i++) CHECKS.due("item " + i + " after it was lost", x.get(0, 2, i), 0);
    CHECKS.under("an empty SHEET is not LOST");
    x.sheet(1, 1, 0);
    CHECKS.due("read(1)", x.read(1), 0);
    CHECKS.due("write(0, 1)", x.write(0, 1), 0);
    CHECKS.due("copy(1, 0, 1, 0, 0)", x.copy(1, 0, 1, 0, 0), 1);
    CHECKS.due("lay(1, 1, 0, 0)", x.lay(1, 1, 0, 0), INDEX);
    CHECKS.due("lose(1)", x.lose(1), 0);
    CHECKS.due("lose(1) again", x.lose(1), NULL);
  }

  private static void lay(int form, int v, int becomes) {
    OwnWeather x = new OwnWeather();
    x.sheet(2, form, 3);
    CHECKS.due("lay of form " + form, x.lay(2, form, 1, v), 1);
    CHECKS.due(v + " as form " + form, x.get(2, form, 1), becomes);
    CHECKS.due("the item before it", x.get(2, form, 0), 0);
    CHECKS.due("the item behind it", x.get(2, form, 2), 0);
  }

  private static void layings() {
    CHECKS.under("0 bytes: the lowest bits that it has");
    int[][] bytes = {{127, 127}, {128, -128}, {-128, -128}, {-129, 127}, {255, -1}, {256, 0}, {-1, -1},
        {Integer.MAX_VALUE, -1}, {Integer.MIN_VALUE, 0}};
    for (int[] b : bytes) lay(0, b[0], b[1]);
    CHECKS.under("1 shorts: the lowest bits that it has");
    int[][] shorts = {{32767, 32767}, {32768, -32768}, {-32768, -32768}, {-32769, 32767}, {65535, -1}, {65536, 0},
        {128, 128}, {-1, -1}, {Integer.MAX_VALUE, -1}, {Integer.MIN_VALUE, 0}};
    for (int[] b : shorts) lay(1, b[0], b[1]);
    CHECKS.under("2 ints: all bits");
    for (int v : new int[] {0, -1, 128, 32768, Integer.MAX_VALUE, Integer.MIN_VALUE}) lay(2, v, v);
    CHECKS.under("an item that is the least int is told as it is, without a FINDING");
    OwnWeather x = new OwnWeather();
    Checks.items(x, 0, 2, Integer.MIN_VALUE);
    CHECKS.due("get(0, 2, 0)", x.get(0, 2, 0), LEAST);
    CHECKS.due("count(8)", x.count(8), 0);
    CHECKS.under("INDEX: there is no such item: the first, the last of 60, one more");
    x.sheet(1, 0, 60);
    CHECKS.due("lay(1, 0, 0, 5)", x.lay(1, 0, 0, 5), 1);
    CHECKS.due("lay(1, 0, 59, 6)", x.lay(1, 0, 59, 6), 1);
    CHECKS.due("lay(1, 0, 60, 7)", x.lay(1, 0, 60, 7), INDEX);
    CHECKS.due("lay(1, 0, -1, 7)", x.lay(1, 0, -1, 7), INDEX);
    CHECKS.due("get(1, 0, 0)", x.get(1, 0, 0), 5);
    CHECKS.due("get(1, 0, 59)", x.get(1, 0, 59), 6);
  }

  /** A sheet of n items, 1 on. */
  private static OwnWeather numbered(int s, int form, int n) {
    OwnWeather x = new OwnWeather();
    x.sheet(s, form, n);
    for (int i = 0; i < n; i++) x.lay(s, form, i, i + 1);
    return x;
  }

  private static void copies() {
    CHECKS.under("n items of SHEET s, from i on, come to SHEET t, from j on: all 60 of them");
    for (int form = 0; form < 3; form++) {
      OwnWeather x = numbered(0, form, 60);
      x.sheet(3, form, 60);
      CHECKS.due("copy(0, 0, 3, 0, 60)", x.copy(0, 0, 3, 0, 60), 1);
      for (int i = 0; i < 60; i++) CHECKS.due("get(3, .., " + i + ")", x.get(3, form, i), i + 1);
      CHECKS.due("copy(3, 59, 0, 0, 1): the last", x.copy(3, 59, 0, 0, 1), 1);
      CHECKS.due("get(0, .., 0)", x.get(0, form, 0), 60);
      CHECKS.due("get(0, .., 1)", x.get(0, form, 1), 2);
      CHECKS.due("copy(3, 0, 0, 59, 1): to the last", x.copy(3, 0, 0, 59, 1), 1);
      CHECKS.due("get(0, .., 59)", x.get(0, form, 59), 1);
      CHECKS.due("get(0, .., 58)", x.get(0, form, 58), 59);
    }
    CHECKS.under("(perhaps s, as they were): to later items, to earlier ones, to the same");
    OwnWeather x = numbered(1, 2, 60);
    CHECKS.due("copy(1, 0, 1, 1, 59)", x.copy(1, 0, 1, 1, 59), 1);
    for (int i = 0; i < 60; i++) CHECKS.due("item " + i, x.get(1, 2, i), Math.max(i, 1));
    x = numbered(1, 2, 60);
    CHECKS.due("copy(1, 1, 1, 0, 59)", x.copy(1, 1, 1, 0, 59), 1);
    for (int i = 0; i < 60; i++) CHECKS.due("item " + i, x.get(1, 2, i), Math.min(i + 2, 60));
    CHECKS.due("copy(1, 0, 1, 0, 60)", x.copy(1, 0, 1, 0, 60), 1);
    CHECKS.due("get(1, 2, 0)", x.get(1, 2, 0), 2);
    CHECKS.under("of no items, at the end too");
    x = numbered(1, 2, 5);
    x.sheet(2, 2, 0);
    CHECKS.due("copy(1, 5, 2, 0, 0)", x.copy(1, 5, 2, 0, 0), 1);
    CHECKS.due("copy(2, 0, 1, 5, 0)", x.copy(2, 0, 1, 5, 0), 1);
    CHECKS.due("copy(1, 6, 2, 0, 0): past the end", x.copy(1, 6, 2, 0, 0), INDEX);
    CHECKS.due("copy(2, 0, 1, 6, 0): past the end", x.copy(2, 0, 1, 6, 0), INDEX);
    for (int i = 0; i < 5; i++) CHECKS.due("item " + i, x.get(1, 2, i), i + 1);
    CHECKS.under("a copy is apart from what it was copied from");
    x.sheet(2, 2, 5);
    x.copy(1, 0, 2, 0, 5);
    x.lay(1, 2, 0, 99);
    CHECKS.due("get(2, 2, 0)", x.get(2, 2, 0), 1);
    x.lose(1);
    CHECKS.due("get(2, 2, 4)", x.get(2, 2, 4), 5);
  }

  private static void writings() {
    CHECKS.under("How BRIGHT PERSONS 0 on are .. as many as there are items and PERSONS");
    String eight = "9c;8c;7c;6c;5c;4c;3c;2c";
    for (int form = 0; form < 3; form++)
      for (int n : new int[] {0, 1, 7, 8, 9, 60}) {
        OwnWeather x = Checks.told(eight, "09");
        x.sheet(3, form, n);
        for (int i = 0; i < n; i++) x.lay(3, form, i, 77);
        CHECKS.due("write(23, 3) to " + n, x.write(23, 3), Math.min(n, 8));
        for (int i = 0; i < n; i++) CHECKS.due("item " + i, x.get(3, form, i), i < 8 ? 9 - i : 77);
      }
    CHECKS.under("in an HOUR");
    OwnWeather x = Checks.told("0o;9c", "09");
    x.sheet(0, 0, 2);
    for (int hour = 0; hour < 24; hour++) {
      CHECKS.due("write(" + hour + ", 0)", x.write(hour, 0), 2);
      CHECKS.due("get(0, 0, 0)", x.get(0, 0, 0), Math.min(hour, 9));
    }
    CHECKS.due("write(24, 0)", x.write(24, 0), BAD);
    CHECKS.under("of nobody: 0, and the items stay");
    x.wipe(0);
    CHECKS.due("write(0, 0)", x.write(0, 0), 0);
    CHECKS.due("get(0, 0, 1)", x.get(0, 0, 1), 9);
  }

  private static void counts() {
    CHECKS.under("count: of all that is full");
    OwnWeather x = Checks.told(SUNS, Checks.SIX);
    for (int k = 0; k < 25; k++) x.go(0, 0, 0);
    for (int k = 0; k < 9; k++) x.seen(0, 0, 0);
    for (int k = 0; k < 9; k++) x.fog(0, 0, 0);
    int[] due = {8, 6, 23, 17, 20, 8, 8, 72, 0};
    for (int what = 0; what < 9; what++) CHECKS.due("count(" + what + ")", x.count(what), due[what]);
    CHECKS.under("count 7: how BRIGHT all are together as told, not as they become");
    CHECKS.due("count(7)", Checks.told("9o;0o;0o", "09").count(7), 9);
    CHECKS.due("count(7) of storms", Checks.told(STORMS, "").count(7), 0);
    CHECKS.under("count: 0 to 8, else BAD");
    CHECKS.due("count(9)", x.count(9), BAD);
    CHECKS.due("count(-1)", x.count(-1), BAD);
  }

  // ---- the digest

  private static void digests() {
    CHECKS.under("digest: of an object where all is full");
    OwnWeather x = Checks.told("9o;2h;5c;1o;0o;7o;8h;3c", "47;02;79;36;55;09");
    for (int k = 0; k < 20; k++) x.go(k, k % 7, 1 + k % 4);
    for (int k = 0; k < 8; k++) x.seen(0, k, x.person(k, 0));
    for (int k = 0; k < 8; k++) x.fog(k, k % 5, k % 2);
    CHECKS.due("digest()", x.digest(), Digests.byCalls(x));
    CHECKS.under("digest: of objects of all kinds");
    java.util.Random random = new java.util.Random(6);
    for (int k = 0; k < 60; k++) {
      x = someObject(random);
      CHECKS.due("digest()", x.digest(), Digests.byCalls(x));
    }
    CHECKS.under("digest: lightning() 0, 1: the HOUR, then the PLACE");
    x = Checks.told("1c;1c;9o", "09;09;09");
    Checks.goings(x, 0, 1, 1, 5, 0, 2, 5, 1, 2);
    CHECKS.due("lightning(0)", x.lightning(0), 5);
    CHECKS.due("lightning(1)", x.lightning(1), 2);
    CHECKS.due("digest()", x.digest(), Digests.byCalls(x));
    CHECKS.under("digest: sky() as it is told, where nobody is; longs that wrap");
    x = Checks.told("", "09;09");
    CHECKS.due("digest()", x.digest(), Digests.byCalls(x));
    CHECKS.under("digest: with nobody day(7, 0) is BAD, as it is told; with a FAULT too");
    x = Checks.told("5o;", "0");
    CHECKS.due("digest()", x.digest(), Digests.byCalls(x));
    CHECKS.under("digest: count() 8, SHEETS are not in it, and it changes nothing");
    long before = x.digest();
    x.sheet(0, 0, 5);
    x.lay(0, 0, 1, 5);
    x.lose(1);
    CHECKS.due("digest()", x.digest(), before);
    CHECKS.due("count(8)", x.count(8), 1);
    CHECKS.under("digest: bytes, GOINGS, SEEN, FOGS are in it");
    x = Checks.told("5o", "09");
    before = x.digest();
    x.go(0, 7, 5);
    CHECKS.must("a GOING", x.digest() != before);
    x.back();
    CHECKS.due("and back", x.digest(), before);
    x.seen(0, 0, 5);
    CHECKS.must("SEEN", x.digest() != before);
    x.forget(0);
    x.fog(0, 0, 1);
    CHECKS.must("a FOG", x.digest() != before);
    x.forget(1);
    CHECKS.due("forgotten", x.digest(), before);
    x.type(0, ';');
    CHECKS.must("a byte", x.digest() != before);
  }

  /** By a fixed seed: 2 to 8 persons, 1 to 6 places that want little, goings early in the day. */
  private static OwnWeather someObject(java.util.Random random) {
    OwnWeather x = new OwnWeather();
    for (int p = 0, n = 2 + random.nextInt(7); p < n; p++)
      Checks.tell(x, 0, (p == 0 ? "" : ";") + random.nextInt(10) + "oohc".charAt(random.nextInt(4)));
    for (int q = 0, m = 1 + random.nextInt(6); q < m; q++) {
      int low = random.nextInt(7);
      Checks.tell(x, 1, (q == 0 ? "" : ";") + low + (low + random.nextInt(3)));
    }
    for (int k = 0, n = random.nextInt(12); k < n; k++)
      x.go(random.nextInt(6), random.nextInt(x.count(0)), random.nextInt(x.count(1)));
    return x;
  }
}
