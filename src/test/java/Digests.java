import java.math.BigInteger;

/** The digest by the calls that it is told of, with numbers without bounds that are wrapped at the end. */
final class Digests {
  private static final BigInteger FACTOR = BigInteger.valueOf(31);
  private BigInteger sum = BigInteger.valueOf(17);

  private Digests() {}

  static long byCalls(OwnWeather x) {
    Digests d = new Digests();
    for (int what = 0; what < 8; what++) d.mix(x.count(what));
    d.mix(x.fault(0), x.fault(1));
    for (int hour : new int[] {0, 1, 5, 23}) d.hour(x, hour);
    for (int q = 0; q < x.count(1); q++) d.place(x, q);
    for (int p = 0; p < x.count(0); p++) d.mix(x.may(p));
    d.mix(x.lightning(0), x.lightning(1), x.settles(), x.hid(), x.day(7, OwnWeather.NONE), x.day(7, 0));
    return d.sum.longValue();
  }

  private void hour(OwnWeather x, int hour) {
    mix(x.met(hour));
    for (int p = 0; p < x.count(0); p++) mix(x.where(hour, p), x.bright(hour, p));
    for (int q = 0; q < x.count(1); q++) mix(x.crowd(hour, q), x.sky(hour, q, 0), x.sky(hour, q, 1));
  }

  private void place(OwnWeather x, int q) {
    mix(x.spoilt(q), x.send(q, 3, 0), x.send(q, 3, 1), x.keep(q, 2, 5, 0), x.keep(q, 2, 5, 1));
    mix(x.row(1, q, OwnWeather.NONE), x.row(1, q, 0), x.news(5, q, 2, 0), x.news(5, q, 2, 1), x.roof(5, q, 0));
  }

  private void mix(long... values) {
    for (long v : values) sum = sum.multiply(FACTOR).add(BigInteger.valueOf(v));
  }
}
