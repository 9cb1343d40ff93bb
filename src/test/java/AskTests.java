/** Promises 18 to 23: what is asked. */
public final class AskTests {
  public static void main(String[] args) {
    promise18OfGuest();
    promise19OfSeat();
    promise20OfPair();
    promise21OfStop();
    promise21Breaks();
    promise21Stuck();
    promise22Tour();
    promise23Row();
    Check.end();
  }

  private static void promise18OfGuest() {
    Coachparty x = new Coachparty();
    Check.thrown("without guests", x, Check.INDEX, () -> x.ofGuest(0, 0));
    x.guest(1, 2, 3, 0);
    x.guest(0, 0, 4, 7);
    x.guest(0, 0, 4, 7);
    x.pair(0, 1, -5, 0);
    x.seat(1, 1);
    x.stop(0, 0, 2000, 100);
    x.stop(0, 0, 2000, 100);
    x.drive();
    x.pay(0, true);
    int[] due = {1, 2, 3, 0, 1, 0, 1, 0, 40, 5, 0};
    for (int what = 0; what < due.length; what++) {
      Check.due("of 0, " + what, x.ofGuest(0, what), due[what]);
    }
    Check.due("owed", x.ofGuest(1, 7), 1);
    Check.due("owed to one who waits", x.ofGuest(2, 7), 0);
    Check.due("no seat", x.ofGuest(2, 5), -1);
    Check.due("waiting", x.ofGuest(2, 4), 0);
    x.cancel(2);
    Check.due("gone", x.ofGuest(2, 4), 3);
    Check.thrown("no such guest, and what", x, Check.INDEX, () -> x.ofGuest(3, 11));
    Check.thrown("guest -1", x, Check.INDEX, () -> x.ofGuest(-1, 0));
    Check.thrown("what 11", x, Check.ARGUMENT, () -> x.ofGuest(0, 11));
    Check.thrown("what -1", x, Check.ARGUMENT, () -> x.ofGuest(0, -1));
  }

  private static void promise19OfSeat() {
    Coachparty x = new Coachparty();
    x.guest(0, 0, 4, 0);
    x.seat(0, 6);
    x.out(7, true);
    Check.due("who sits there", x.ofSeat(6, 0), 0);
    Check.due("nobody", x.ofSeat(7, 0), -1);
    Check.due("out", x.ofSeat(7, 1), 1);
    Check.due("not out", x.ofSeat(6, 1), 0);
    int[] windows = {1, 0, 0, 1};
    for (int seat = 0; seat < 16; seat++) {
      Check.due("window " + seat, x.ofSeat(seat, 2), windows[seat % 4]);
    }
    Check.thrown("seat 16", x, Check.INDEX, () -> x.ofSeat(16, 3));
    Check.thrown("seat -1", x, Check.INDEX, () -> x.ofSeat(-1, 0));
    Check.thrown("what 3", x, Check.ARGUMENT, () -> x.ofSeat(0, 3));
    Check.thrown("what -1", x, Check.ARGUMENT, () -> x.ofSeat(0, -1));
  }

  private static void promise20OfPair() {
    Coachparty x = new Coachparty();
    x.guest(0, 0, 4, 7);
    x.guest(0, 0, 4, 7);
    x.pair(0, 1, -7, 2);
    x.seat(0, 4);
    Check.due("bond", x.ofPair(1, 0, 0), -7);
    Check.due("law", x.ofPair(1, 0, 1), 2);
    Check.due("one of both waits", x.ofPair(0, 1, 2), -1);
    x.seat(1, 11);
    Check.due("a row and three columns", x.ofPair(0, 1, 2), 4);
    x.move(1, 0);
    x.stop(0, 0, 2000, 200);
    x.drive();
    Check.due("quarrels", x.ofPair(1, 0, 3), 14);
    for (int what = 0; what <= 3; what++) {
      Check.due("of a guest and itself " + what, x.ofPair(0, 0, what), 0);
    }
    x.guest(0, 0, 4, 7);
    Check.due("itself, waiting", x.ofPair(2, 2, 2), -1);
    Check.thrown("no such guest", x, Check.INDEX, () -> x.ofPair(3, 0, 4));
    Check.thrown("no such other", x, Check.INDEX, () -> x.ofPair(0, 3, 0));
    Check.thrown("other -1", x, Check.INDEX, () -> x.ofPair(0, -1, 0));
    Check.thrown("what 4", x, Check.ARGUMENT, () -> x.ofPair(0, 1, 4));
    Check.thrown("what -1, of itself", x, Check.ARGUMENT, () -> x.ofPair(0, 0, -1));
  }

  private static void stopIs(String name, Coachparty x, int stop, int... due) {
    for (int what = 0; what < due.length; what++) {
      Check.due(name + ": stop " + stop + " what " + what, x.ofStop(stop, what), due[what]);
    }
  }

  private static void promise21OfStop() {
    Coachparty x = new Coachparty();
    Check.thrown("without stops", x, Check.INDEX, () -> x.ofStop(0, 0));
    x.stop(100, 30, 580, 0);
    x.stop(50, 30, 659, 0);
    x.stop(0, 0, 0, 0);
    stopIs("as late as it may", x, 0, 580, 0, 610, 0, 100);
    stopIs("cut", x, 1, 660, 1, 660, 0, 150);
    stopIs("no way", x, 2, 660, 1, 660, 0, 150);
    Check.thrown("no such stop, and what", x, Check.INDEX, () -> x.ofStop(3, 5));
    Check.thrown("stop -1", x, Check.INDEX, () -> x.ofStop(-1, 0));
    Check.thrown("what 5", x, Check.ARGUMENT, () -> x.ofStop(0, 5));
    Check.thrown("what -1", x, Check.ARGUMENT, () -> x.ofStop(0, -1));
  }

  private static void promise21Breaks() {
    Coachparty x = new Coachparty();
    x.begin(0);
    x.stop(270, 44, 2000, 0);
    x.stop(0, 0, 2000, 0);
    x.stop(270, 0, 2000, 0);
    x.stop(0, 10, 2000, 0);
    stopIs("270 minutes without one", x, 0, 270, 0, 314, 0, 270);
    stopIs("no more to drive on that way", x, 1, 314, 0, 314, 0, 270);
    stopIs("as the way begins, and not at its end", x, 2, 314 + 45 + 270, 0, 629, 1, 540);
    stopIs("540 are not passed", x, 3, 629, 0, 639, 0, 540);

    Coachparty y = new Coachparty();
    y.begin(0);
    y.stop(270, 45, 2000, 0);
    y.stop(270, 0, 2000, 0);
    stopIs("a stay of 45 is a break", y, 1, 585, 0, 585, 0, 540);
    y.begin(1439);
    y.delay(0, 0);
    stopIs("still on time", y, 0, 1709, 0, 1754, 0, 270);

    Coachparty z = new Coachparty();
    z.begin(0);
    z.stop(200, 60, 199, 0);
    z.stop(200, 0, 2000, 0);
    stopIs("the stay is cut", z, 0, 200, 1, 200, 0, 200);
    stopIs("so it is no break", z, 1, 445, 0, 445, 1, 400);

    Coachparty w = new Coachparty();
    w.begin(0);
    w.stop(540, 0, 2000, 0);
    stopIs("one on the way, none as it ends", w, 0, 585, 0, 585, 1, 540);
    w.stop(0, 100, 2000, 0);
    stopIs("no way after 540", w, 1, 585, 0, 685, 0, 540);

    Coachparty v = new Coachparty();
    v.begin(0);
    v.stop(271, 0, 2000, 0);
    v.stop(269, 0, 2000, 0);
    stopIs("one minute behind the break", v, 0, 316, 0, 316, 1, 271);
    stopIs("then 270 without one", v, 1, 585, 0, 585, 0, 540);

    Coachparty u = new Coachparty();
    u.begin(0);
    u.stop(270, 0, 2000, 0);
    u.stop(1, 0, 2000, 0);
    stopIs("a break for one minute more", u, 1, 316, 0, 316, 1, 271);
  }

  private static void promise21Stuck() {
    Coachparty x = new Coachparty();
    x.stop(540, 0, 2000, 0);
    x.stop(1, 0, 0, 0);
    x.stop(0, 0, 0, 0);
    stopIs("stuck by one minute", x, 1, -1, 0, -1, -1, -1);
    stopIs("all behind it, too", x, 2, -1, 0, -1, -1, -1);
    x.delay(0, 1);
    stopIs("stuck at once", x, 0, -1, 0, -1, -1, -1);
    x.drive();
    Check.due("the next day goes on", x.ofStop(0, 4), 540);
  }

  private static void promise22Tour() {
    Coachparty x = new Coachparty();
    x.coach(2, 0);
    x.out(7, true);
    for (int guest = 0; guest < 9; guest++) {
      x.guest(0, 3, 0, 0);
    }
    x.guest(0, 0, 0, 6);
    x.pair(0, 1, -9, 1);
    x.pair(1, 2, 0, 2);
    x.stop(10, 0, 2000, 100);
    x.stop(20, 5, 2000, 100);
    x.stop(600, 0, 0, 600);
    x.pay(9, false);
    x.pay(8, true);
    x.drive();
    x.cancel(9);
    int[] due = {1, 7, 10, 7, 2, 1, 521, 4, 9, 140, 3, 2, 515};
    // 4 without a window: a wish and a turn owed each, 16; 9 of the bond of 0 and 1; 4 breaches (3 behind, 1 NEVER),
    // and 4 turns are owed by 0, 3 and 4.
    due[6] = 400 + 9 + 4 * (3 + 1);
    for (int what = 0; what < due.length; what++) {
      Check.due("tour " + what, x.tour(what), due[what]);
    }
    x.delay(0, 300);
    x.delay(1, 300);
    Check.due("leaves the last one with an arrival", x.tour(12), 480 + 310 + 45);
    x.begin(7);
    x.coach(2, 4);
    Check.thrown("what 13", x, Check.ARGUMENT, () -> x.tour(13));
    Check.thrown("what -1", x, Check.ARGUMENT, () -> x.tour(-1));
    Coachparty y = new Coachparty();
    y.stop(600, 9, 2000, 0);
    y.begin(33);
    Check.due("begin without arrivals", y.tour(12), 33);
    Check.due("no arrivals", y.tour(11), 0);
  }

  private static void promise23Row() {
    Coachparty x = new Coachparty();
    for (int guest = 0; guest < 10; guest++) {
      x.guest(0, 0, 0, 0);
    }
    x.seat(9, 4);
    x.seat(0, 6);
    x.out(7, true);
    Check.due("free ones", x.row(0), ". .|. .");
    Check.due("guests and an out one", x.row(1), "9 .|0 x");
    Check.due("the last row", x.row(3), ". .|. .");
    Check.thrown("row 4 of four", x, Check.INDEX, () -> x.row(4));
    Check.thrown("row -1", x, Check.INDEX, () -> x.row(-1));
    x.coach(5, 0);
    Check.due("row 4 of five", x.row(4), ". .|. .");
    x.coach(2, 0);
    Check.thrown("row 2 of two", x, Check.INDEX, () -> x.row(2));
  }
}
