/** Firms that several tests begin with. */
final class Firms {
  private Firms() {
  }

  /** So many guests whom nothing bothers wait in a village. */
  static Coachparty waiting(int guests, int village) {
    Coachparty x = new Coachparty();
    for (int guest = 0; guest < guests; guest++) {
      x.guest(0, 0, 4, village);
    }
    return x;
  }

  /** So many guests whom nothing bothers sit on the seats 0, 1, 2 .. */
  static Coachparty seated(int guests) {
    Coachparty x = waiting(guests, 7);
    for (int guest = 0; guest < guests; guest++) {
      x.seat(guest, guest);
    }
    return x;
  }

  /** The smallest coach, with a guest on each of its eight seats. */
  static Coachparty full() {
    Coachparty x = seated(8);
    x.coach(2, 1);
    return x;
  }

  /** The full one, and a guest who waits. */
  static Coachparty fullAndOneMore() {
    Coachparty x = full();
    x.guest(0, 0, 4, 7);
    return x;
  }

  /** The smallest coach, each of its eight seats out. */
  static Coachparty allOut() {
    Coachparty x = new Coachparty();
    x.coach(2, 1);
    for (int seat = 0; seat < 8; seat++) {
      x.out(seat, true);
    }
    return x;
  }

  /** The coach leaves the yard at 0 and goes to stops, each told as drive, stay, latest, miles. */
  static Coachparty road(int[]... stops) {
    Coachparty x = new Coachparty();
    x.begin(0);
    for (int[] stop : stops) {
      x.stop(stop[0], stop[1], stop[2], stop[3]);
    }
    return x;
  }

  /** Nothing is as at first: guests in each state, pairs, seats that are out, stops, a day over, money paid. */
  static Coachparty busy() {
    Coachparty x = new Coachparty();
    x.coach(5, 2);
    x.out(19, true);
    x.out(5, true);
    x.coach(3, 1);
    x.guest(4, 6, 4, 0);
    x.guest(0, 9, 4, 0);
    x.guest(2, 3, 1, 0);
    x.guest(9, 0, 0, 1);
    x.guest(1, 1, 4, 1);
    x.guest(0, 0, 2, 7);
    x.guest(3, 3, 3, 7);
    x.guest(5, 5, 4, 7);
    x.guest(0, 2, 4, 6);
    x.pair(0, 1, -7, 0);
    x.pair(1, 2, -3, 2);
    x.pair(0, 3, 5, 1);
    x.pair(2, 5, 9, 1);
    x.pair(0, 8, 4, 0);
    x.stop(30, 15, 2000, 40);
    x.stop(200, 50, 800, 300);
    x.stop(150, 20, 2000, 120);
    x.seat(8, 11);
    x.pay(5, true);
    x.pay(4, false);
    x.pay(7, true);
    x.cancel(7);
    x.late(4, 60);
    x.drive();
    x.move(3, 9);
    x.begin(500);
    x.price(333);
    x.rates(61, 92, 121);
    x.delay(1, 45);
    x.late(5, 9);
    return x;
  }

  /** Ten guests, of whom some sit, and eight stops. */
  static Coachparty many() {
    Coachparty x = new Coachparty();
    for (int guest = 0; guest < 10; guest++) {
      x.guest(guest % 3, guest, 4 - guest % 4, guest % 8);
    }
    for (int stop = 0; stop < 8; stop++) {
      x.stop(10 * stop, 5, 600, 50 * stop);
    }
    x.pair(0, 9, -9, 2);
    x.pair(1, 9, 9, 1);
    x.seat(0, 15);
    x.seat(9, 14);
    x.seat(4, 0);
    x.late(1, 6);
    x.delay(7, 3);
    return x;
  }
}
