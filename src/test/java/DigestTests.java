import java.math.BigInteger;
import java.util.ArrayList;
import java.util.List;

/** Promise 29: the checksum, number by number, and that it wraps around. */
public final class DigestTests {
  private static final BigInteger TWO_TO_64 = BigInteger.ONE.shiftLeft(64);

  public static void main(String[] args) {
    ofANewOne();
    ofEachFirm();
    wrapsAround();
    eachNumberCounts();
    orderOfItsParts();
    ofNumbersBelow0();
    changesNothing();
    Check.end();
  }

  /** The numbers as the promise tells them, in its order. */
  private static List<Integer> numbers(Coachparty x, int seats) {
    List<Integer> all = new ArrayList<>();
    for (int what = 0; what <= 12; what++) {
      all.add(x.tour(what));
    }
    for (int guest = 0; guest < x.tour(2); guest++) {
      for (int what = 4; what <= 10; what++) {
        all.add(x.ofGuest(guest, what));
      }
    }
    for (int seat = 0; seat < seats; seat++) {
      all.add(x.ofSeat(seat, 0));
    }
    for (int stop = 0; stop < x.tour(10); stop++) {
      for (int what = 0; what <= 4; what++) {
        all.add(x.ofStop(stop, what));
      }
    }
    for (int one = 0; one < x.tour(2); one++) {
      for (int other = one + 1; other < x.tour(2); other++) {
        all.add(x.ofPair(one, other, 2));
        all.add(x.ofPair(one, other, 3));
      }
    }
    all.add(x.asked());
    all.add(x.rooms(true));
    all.add(x.rooms(false));
    all.add(x.split(4, true));
    all.add(x.split(4, false));
    all.add(x.isSound() ? 1 : 0);
    return all;
  }

  /** The checksum without any end: as large as it would be if nothing wrapped around. */
  private static BigInteger unwrapped(List<Integer> numbers) {
    BigInteger d = BigInteger.valueOf(4517);
    for (int v : numbers) {
      d = d.multiply(BigInteger.valueOf(31)).add(BigInteger.valueOf(v));
    }
    return d;
  }

  private static long wrapped(List<Integer> numbers) {
    return unwrapped(numbers).longValue();
  }

  private static void ofANewOne() {
    BigInteger d = BigInteger.valueOf(4517);
    int[] tour = {0, 16, 0, 0, 0, 0, 0, 0, 0, 0, 0, 0, 480};
    for (int v : tour) {
      d = d.multiply(BigInteger.valueOf(31)).add(BigInteger.valueOf(v));
    }
    for (int seat = 0; seat < 16; seat++) {
      d = d.multiply(BigInteger.valueOf(31)).subtract(BigInteger.ONE);
    }
    int[] rest = {0, 0, 0, 0, 0, 1};
    for (int v : rest) {
      d = d.multiply(BigInteger.valueOf(31)).add(BigInteger.valueOf(v));
    }
    Check.due("of a new one", new Coachparty().digest(), d.longValue());
    Check.due("it would be greater", d.bitLength() > 64, true);
  }

  private static void ofEachFirm() {
    Check.due("busy", Firms.busy().digest(), wrapped(numbers(Firms.busy(), 12)));
    Check.due("many", Firms.many().digest(), wrapped(numbers(Firms.many(), 16)));
    Check.due("full", Firms.full().digest(), wrapped(numbers(Firms.full(), 8)));
    Check.due("out", Firms.allOut().digest(), wrapped(numbers(Firms.allOut(), 8)));
    Check.due("ten", Firms.seated(10).digest(), wrapped(numbers(Firms.seated(10), 16)));
    Coachparty x = Firms.seated(3);
    x.coach(5, 4);
    x.stop(541, 0, 0, 0);
    x.drive();
    Check.due("twenty seats, and stuck", x.digest(), wrapped(numbers(x, 20)));
  }

  /** "Which wraps around as a 64-bit integer": above the greatest, and to numbers below 0. */
  private static void wrapsAround() {
    int below = 0;
    int above = 0;
    for (int begin = 0; begin < 40; begin++) {
      Coachparty x = new Coachparty();
      x.begin(begin);
      BigInteger large = unwrapped(numbers(x, 16));
      long d = x.digest();
      BigInteger lost = large.subtract(BigInteger.valueOf(d));
      Check.due("what is lost is 2 to 64 times something", lost.mod(TWO_TO_64), BigInteger.ZERO);
      Check.due("which is not nothing", lost.signum() > 0, true);
      below += d < 0 ? 1 : 0;
      above += d > Integer.MAX_VALUE ? 1 : 0;
    }
    Check.due("some are below 0", below > 5, true);
    Check.due("some are above 0", above > 5, true);
  }

  /** A firm, and one that is another in one number alone. */
  private static void differ(String what, Coachparty x, Coachparty y) {
    Check.due(what + " counts", x.digest() == y.digest(), false);
  }

  private static void eachNumberCounts() {
    Coachparty x = Firms.seated(3);
    x.move(2, 14);
    differ("who sits there", Firms.seated(3), x);
    Coachparty y = Firms.seated(3);
    y.pay(0, true);
    Coachparty z = Firms.seated(3);
    z.pay(1, true);
    differ("who paid", y, z);
    differ("an arrival", Firms.road(new int[] {7, 0, 2000, 0}), Firms.road(new int[] {8, 0, 2000, 0}));
    differ("a stop that is cut", Firms.road(new int[] {7, 0, 7, 0}), Firms.road(new int[] {7, 0, 6, 0}));
    Coachparty w = Firms.seated(3);
    w.rates(59, 90, 120);
    Check.due("a rate that is not paid does not", Firms.seated(3).digest(), w.digest());
    w.rates(60, 90, 119);
    differ("what rooms cost", Firms.seated(3), w);
  }

  /** "rooms() of both (how many first); split() of 4, the set, then LOSS". */
  private static void orderOfItsParts() {
    Coachparty x = Firms.seated(2);
    x.pair(0, 1, 5, 2);
    List<Integer> all = numbers(x, 16);
    int[] due = {1, 2, 120, 1, 5, 1};
    for (int k = 0; k < due.length; k++) {
      Check.due("number " + k + " of the last", all.get(all.size() - due.length + k), due[k]);
    }
    Check.due("in this order", x.digest(), wrapped(all));
  }

  private static void ofNumbersBelow0() {
    Coachparty x = Firms.seated(9);
    List<Integer> all = numbers(x, 16);
    Check.due("no split of nine in twice four", all.get(all.size() - 3), -1);
    Check.due("no loss of it", all.get(all.size() - 2), -999);
    Check.due("numbers below 0 are added, too", x.digest(), wrapped(all));
  }

  private static void changesNothing() {
    Coachparty x = Firms.many();
    Check.due("twice the same", x.digest(), x.digest());
    Check.due("and nothing else", Check.inside(x), Check.inside(Firms.many()));
  }
}
