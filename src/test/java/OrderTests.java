import java.util.function.Function;

/**
 * Which exception is thrown, which of several is thrown first, and that a call that throws changes nothing: on a firm
 * in which nothing is as at first, and on one that has all its guests and stops.
 */
public final class OrderTests {
  public static void main(String[] args) {
    promises2And3();
    promise4();
    promise5();
    promises6And24();
    promise8();
    promises9To12();
    promise13();
    promises14To17();
    promises18To23();
    promise27();
    nothingThrows();
    Check.end();
  }

  private static void busy(String what, Class<? extends RuntimeException> want, Function<Coachparty, Object> call) {
    Check.refused(what, want, Firms::busy, call);
  }

  private static void many(String what, Class<? extends RuntimeException> want, Function<Coachparty, Object> call) {
    Check.refused(what, want, Firms::many, call);
  }

  // In Firms.busy() the guests 0, 1, 2, 3 and 8 are aboard, 4 is left behind, 5 and 6 wait, 7 is gone; 8 sits on the
  // seat 11 of 12, 5 and 19 are out.

  private static void promises2And3() {
    busy("a guest would have no seat", Check.STATE, x -> x.coach(2, 1));
    busy("rows, though a guest would have no seat", Check.ARGUMENT, x -> x.coach(1, 1));
    busy("axle, though a guest would have no seat", Check.ARGUMENT, x -> x.coach(2, 5));
    busy("rows and axle", Check.ARGUMENT, x -> x.coach(6, -1));
    busy("a guest sits there", Check.STATE, x -> x.out(11, true));
    busy("a guest sits there, not to be out", Check.STATE, x -> x.out(11, false));
    busy("no such seat", Check.INDEX, x -> x.out(12, true));
    busy("no such seat, though it is out", Check.INDEX, x -> x.out(19, false));
  }

  private static void promise4() {
    many("ten guests", Check.STATE, x -> x.guest(0, 0, 0, 0));
    many("sick, and ten guests", Check.ARGUMENT, x -> x.guest(10, 0, 0, 0));
    many("wish, and ten guests", Check.ARGUMENT, x -> x.guest(0, -1, 0, 0));
    many("row, and ten guests", Check.ARGUMENT, x -> x.guest(0, 0, 5, 0));
    many("village, and ten guests", Check.ARGUMENT, x -> x.guest(0, 0, 0, 8));
    busy("sick alone", Check.ARGUMENT, x -> x.guest(-1, 9, 4, 7));
    busy("village alone", Check.ARGUMENT, x -> x.guest(9, 9, 4, -1));
  }

  private static void promise5() {
    busy("no such one", Check.INDEX, x -> x.pair(9, 0, 1, 1));
    busy("no such other", Check.INDEX, x -> x.pair(0, 9, 1, 1));
    busy("no such one, who is the other", Check.INDEX, x -> x.pair(9, 9, 1, 1));
    busy("no such other, and bond", Check.INDEX, x -> x.pair(0, -1, 10, 1));
    busy("no such one, and law", Check.INDEX, x -> x.pair(-1, 0, 1, 3));
    busy("both are the same", Check.ARGUMENT, x -> x.pair(3, 3, 1, 1));
    busy("bond, and law as before", Check.ARGUMENT, x -> x.pair(0, 1, -10, 0));
    busy("law, and another bond", Check.ARGUMENT, x -> x.pair(0, 1, 8, 3));
    busy("law below 0", Check.ARGUMENT, x -> x.pair(0, 1, 8, -1));
  }

  private static void promises6And24() {
    busy("move: who waits", Check.STATE, x -> x.move(5, 0));
    busy("move: who is left behind", Check.STATE, x -> x.move(4, 0));
    busy("move: who is gone", Check.STATE, x -> x.move(7, 0));
    busy("move: to a seat that is out", Check.STATE, x -> x.move(0, 5));
    busy("move: who waits, to a seat that is out", Check.STATE, x -> x.move(5, 5));
    busy("move: who waits, to no seat", Check.INDEX, x -> x.move(5, 12));
    busy("move: nobody, to a seat that is out", Check.INDEX, x -> x.move(9, 5));
    busy("move: to a seat that is out and not there", Check.INDEX, x -> x.move(0, 19));
    busy("would: who waits", Check.STATE, x -> x.would(5, 0));
    busy("would: who is left behind", Check.STATE, x -> x.would(4, 0));
    busy("would: who is gone", Check.STATE, x -> x.would(7, 0));
    busy("would: to a seat that is out", Check.STATE, x -> x.would(0, 5));
    busy("would: who waits, to no seat", Check.INDEX, x -> x.would(5, 12));
    busy("would: nobody, to a seat that is out", Check.INDEX, x -> x.would(9, 5));
    busy("would: to a seat that is out and not there", Check.INDEX, x -> x.would(0, 19));
  }

  private static void promise8() {
    busy("seat: who is aboard", Check.STATE, x -> x.seat(0, 6));
    busy("seat: who is left behind", Check.STATE, x -> x.seat(4, 6));
    busy("seat: who is gone", Check.STATE, x -> x.seat(7, 6));
    busy("seat: out", Check.STATE, x -> x.seat(5, 5));
    busy("seat: taken", Check.STATE, x -> x.seat(5, 11));
    busy("seat: who is aboard, on its own seat", Check.STATE, x -> x.seat(8, 11));
    busy("seat: who is gone, on no seat", Check.INDEX, x -> x.seat(7, 12));
    busy("seat: nobody, on one that is taken", Check.INDEX, x -> x.seat(9, 11));
    busy("seat: on one that is out and not there", Check.INDEX, x -> x.seat(5, 19));
  }

  private static void promises9To12() {
    many("eight stops", Check.STATE, x -> x.stop(0, 0, 0, 0));
    many("drive, and eight stops", Check.ARGUMENT, x -> x.stop(601, 0, 0, 0));
    many("stay, and eight stops", Check.ARGUMENT, x -> x.stop(0, 301, 0, 0));
    many("latest, and eight stops", Check.ARGUMENT, x -> x.stop(0, 0, 2001, 0));
    many("miles, and eight stops", Check.ARGUMENT, x -> x.stop(0, 0, 0, -1));
    busy("stay alone", Check.ARGUMENT, x -> x.stop(1, -1, 1, 1));
    busy("begin", Check.ARGUMENT, x -> x.begin(1440));
    busy("no such stop", Check.INDEX, x -> x.delay(3, 1));
    busy("no such stop, and minutes", Check.INDEX, x -> x.delay(-1, 301));
    busy("minutes of a delay", Check.ARGUMENT, x -> x.delay(1, 301));
    busy("no such guest", Check.INDEX, x -> x.late(9, 1));
    busy("no such guest, and minutes", Check.INDEX, x -> x.late(9, -1));
    busy("minutes of one who is late", Check.ARGUMENT, x -> x.late(5, 61));
  }

  private static void promise13() {
    Check.refused("no stop", Check.STATE, () -> Firms.seated(3), x -> x.drive());
    Check.refused("the day 60", Check.STATE, OrderTests::lastDay, x -> x.drive());
  }

  private static Coachparty lastDay() {
    Coachparty x = Firms.many();
    for (int day = 0; day < 60; day++) {
      x.drive();
    }
    x.delay(3, 7);
    x.late(2, 9);
    return x;
  }

  private static void promises14To17() {
    busy("single alone", Check.ARGUMENT, x -> x.rates(301, 1, 1));
    busy("double alone", Check.ARGUMENT, x -> x.rates(1, -1, 1));
    busy("triple alone", Check.ARGUMENT, x -> x.rates(1, 1, 301));
    busy("price", Check.ARGUMENT, x -> x.price(1000));
    busy("pay: nobody", Check.INDEX, x -> x.pay(9, true));
    busy("pay: who is gone", Check.STATE, x -> x.pay(7, false));
    busy("pay: a deposit of who is gone", Check.STATE, x -> x.pay(7, true));
    busy("cancel: nobody", Check.INDEX, x -> x.cancel(9));
    busy("cancel: who is aboard", Check.STATE, x -> x.cancel(0));
    busy("cancel: who is gone", Check.STATE, x -> x.cancel(7));
  }

  private static void promises18To23() {
    busy("ofGuest: nobody, and what", Check.INDEX, x -> x.ofGuest(9, 11));
    busy("ofGuest: what", Check.ARGUMENT, x -> x.ofGuest(8, 11));
    busy("ofSeat: no seat, and what", Check.INDEX, x -> x.ofSeat(12, 3));
    busy("ofSeat: what", Check.ARGUMENT, x -> x.ofSeat(11, 3));
    busy("ofPair: no one, and what", Check.INDEX, x -> x.ofPair(9, 0, 4));
    busy("ofPair: no other, and what", Check.INDEX, x -> x.ofPair(0, 9, -1));
    busy("ofPair: what", Check.ARGUMENT, x -> x.ofPair(0, 1, 4));
    busy("ofPair: what, of itself", Check.ARGUMENT, x -> x.ofPair(2, 2, 4));
    busy("ofStop: no stop, and what", Check.INDEX, x -> x.ofStop(3, 5));
    busy("ofStop: what", Check.ARGUMENT, x -> x.ofStop(2, 5));
    busy("tour: what", Check.ARGUMENT, x -> x.tour(13));
    busy("row", Check.INDEX, x -> x.row(3));
  }

  private static void promise27() {
    busy("no seats", Check.ARGUMENT, x -> x.split(0, true));
    busy("too many seats", Check.ARGUMENT, x -> x.split(13, false));
  }

  /** What is asked, and what would be, changes nothing as it answers, either. */
  private static void nothingThrows() {
    Check.asked("asked: 3 goes to the seat of 1, 1 away from 2", Firms::busy, x -> x.asked(), 2);
    // 8 and 1 swap: a breach, 4 of a bond, 10 of 1 at a window and 7 and 3 of its foes less; 2 of 8 without one more.
    Check.asked("would", Firms::busy, x -> x.would(8, 1), -100 - 4 - 10 - 7 - 3 + 2);
    Check.asked("isSound", Firms::busy, x -> x.isSound(), true);
    Check.asked("digest", Firms::busy, x -> x.digest(), Firms.busy().digest());
    Check.asked("how many rooms", Firms::busy, x -> x.rooms(true), 2);
    Check.asked("rooms of 0, 2, 3 and of 1, 8", Firms::busy, x -> x.rooms(false), 121 - 5 + 92);
    Check.asked("split: 0, 2, 3 and 8 in one", Firms::busy, x -> x.split(4, true), 1 + 4 + 8 + 256);
    Check.asked("loss", Firms::busy, x -> x.split(4, false), -7 - 3);
    Check.asked("a row", Firms::busy, x -> x.row(2), ". 3|. 8");
    Check.asked("cost", Firms::busy, x -> x.tour(6), 9 + 10 + 4 + 7 + 3 + 300);
  }
}
