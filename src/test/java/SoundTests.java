import java.lang.reflect.Field;
import java.lang.reflect.Method;

/**
 * Promise 28: each sentence of isSound. No run of calls makes a firm that is not sound, so its numbers are changed from
 * within here, one at a time; this test has to follow when the class holds them in another way.
 */
public final class SoundTests {
  private static final int SEAT = 5;
  private static final int PAID = 8;
  private static final int ARRIVAL = 0;
  private static final int LEAVES = 2;

  public static void main(String[] args) throws ReflectiveOperationException {
    soundRuns();
    oneSeatForTwo();
    seatThatIsOut();
    seatThatIsNotThere();
    bondsAndLaws();
    paidLessThan0();
    arrivalAheadOfBegin();
    arrivalAheadOfLeaving();
    noArrival();
    countsInTheDigest();
    Check.end();
  }

  private static Object part(Object of, String name) throws ReflectiveOperationException {
    Field field = of.getClass().getDeclaredField(name);
    field.setAccessible(true);
    return field.get(of);
  }

  private static void put(Object table, int row, int column, int value) throws ReflectiveOperationException {
    Method set = table.getClass().getDeclaredMethod("set", int.class, int.class, int.class);
    set.setAccessible(true);
    set.invoke(table, row, column, value);
  }

  private static void soundIs(String what, Coachparty x, boolean due) {
    Check.due(what + ": sound", x.isSound(), due);
  }

  private static void soundRuns() {
    soundIs("a new one", new Coachparty(), true);
    soundIs("busy", Firms.busy(), true);
    soundIs("many", Firms.many(), true);
    soundIs("full", Firms.full(), true);
    soundIs("out", Firms.allOut(), true);
  }

  /** "No two GUESTS have one SEAT". */
  private static void oneSeatForTwo() throws ReflectiveOperationException {
    Coachparty x = Firms.seated(10);
    put(part(x, "guests"), 9, SEAT, 8);
    soundIs("8 and 9 on one seat", x, false);
    put(part(x, "guests"), 9, SEAT, 9);
    soundIs("each on its own", x, true);
    put(part(x, "guests"), 0, SEAT, 1);
    soundIs("0 and 1 on one seat", x, false);
  }

  /** "Nobody sits on a SEAT that is OUT". */
  private static void seatThatIsOut() throws ReflectiveOperationException {
    Coachparty x = Firms.seated(10);
    boolean[] outs = (boolean[]) part(part(x, "cabin"), "outs");
    outs[10] = true;
    soundIs("out, and free", x, true);
    outs[9] = true;
    soundIs("out, and the last one sits there", x, false);
    outs[9] = false;
    outs[0] = true;
    soundIs("out, and the first one sits there", x, false);
    Coachparty y = Firms.seated(2);
    y.move(1, 14);
    boolean[] others = (boolean[]) part(part(y, "cabin"), "outs");
    others[1] = true;
    soundIs("out, and free; 1 sits elsewhere", y, true);
    others[14] = true;
    soundIs("out, and 1 sits there", y, false);
  }

  /** ".. or not there". */
  private static void seatThatIsNotThere() throws ReflectiveOperationException {
    Coachparty x = Firms.seated(1);
    put(part(x, "guests"), 0, SEAT, 15);
    soundIs("the last seat", x, true);
    put(part(x, "guests"), 0, SEAT, 16);
    soundIs("behind the last seat", x, false);
    x.guest(0, 0, 4, 0);
    put(part(x, "guests"), 0, SEAT, 0);
    soundIs("who waits has none", x, true);
  }

  /** "BONDS and LAWS are the same from both sides". */
  private static void bondsAndLaws() throws ReflectiveOperationException {
    for (String name : new String[] {"bonds", "laws"}) {
      Coachparty x = Firms.waiting(10, 7);
      x.pair(8, 9, 1, 1);
      Object table = part(part(x, "ties"), name);
      put(table, 8, 9, 2);
      soundIs(name + " of 8 and 9", x, false);
      put(table, 8, 9, 1);
      soundIs(name + " as told", x, true);
      put(table, 1, 0, 1);
      soundIs(name + " of 1 and 0", x, false);
    }
  }

  /** "Nobody PAID less than 0". */
  private static void paidLessThan0() throws ReflectiveOperationException {
    Coachparty x = Firms.waiting(10, 7);
    put(part(x, "guests"), 9, PAID, -1);
    soundIs("-1", x, false);
    put(part(x, "guests"), 9, PAID, 0);
    soundIs("0", x, true);
  }

  /** "No ARRIVAL is ahead of BEGIN". */
  private static void arrivalAheadOfBegin() throws ReflectiveOperationException {
    Coachparty x = Firms.road(new int[] {10, 0, 2000, 0});
    x.begin(100);
    Object plan = part(part(x, "road"), "plan");
    put(plan, 0, ARRIVAL, 100);
    soundIs("at begin", x, true);
    put(plan, 0, ARRIVAL, 99);
    soundIs("a minute ahead of it", x, false);
  }

  /** ".. or of the leaving of the STOP ahead". */
  private static void arrivalAheadOfLeaving() throws ReflectiveOperationException {
    Coachparty x = new Coachparty();
    for (int stop = 0; stop < 8; stop++) {
      x.stop(10, 5, 2000, 0);
    }
    Object plan = part(part(x, "road"), "plan");
    for (int stop = 1; stop < 8; stop++) {
      int left = x.ofStop(stop - 1, LEAVES);
      int came = x.ofStop(stop, ARRIVAL);
      put(plan, stop, ARRIVAL, left);
      soundIs("as it is left, " + stop, x, true);
      put(plan, stop, ARRIVAL, left - 1);
      soundIs("a minute ahead, " + stop, x, false);
      put(plan, stop, ARRIVAL, came);
    }
    soundIs("as planned", x, true);
  }

  /** A stop without an arrival is ahead of nothing. */
  private static void noArrival() {
    Coachparty x = new Coachparty();
    x.stop(10, 5, 2000, 0);
    x.stop(600, 5, 2000, 0);
    x.stop(0, 0, 0, 0);
    soundIs("stuck", x, true);
  }

  /** digest: "1 if isSound(), otherwise 0", as the last number. */
  private static void countsInTheDigest() throws ReflectiveOperationException {
    Coachparty x = Firms.waiting(2, 7);
    long d = x.digest();
    put(part(part(x, "ties"), "laws"), 0, 1, 1);
    soundIs("one side alone", x, false);
    Check.due("the digest is 1 less", x.digest(), d - 1);
  }
}
