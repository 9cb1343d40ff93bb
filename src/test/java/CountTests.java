/**
 * Nobody, one and ten guests; no stop, one and eight; a free, a full and an out coach; the day 0 and the day 60; the
 * 512th call.
 */
public final class CountTests {
  public static void main(String[] args) {
    nobody();
    nobodyAboard();
    oneGuest();
    tenGuests();
    tenInTheLargestCoach();
    noStop();
    oneStop();
    eightStops();
    freeCoach();
    fullCoach();
    fullCoachAsked();
    outCoach();
    oneSeatLeft();
    firstDay();
    lastDay();
    lastCall();
    Check.end();
  }

  private static void tourIs(String name, Coachparty x, int... due) {
    for (int what = 0; what < due.length; what++) {
      Check.due(name + ": tour " + what, x.tour(what), due[what]);
    }
  }

  private static void nobody() {
    Coachparty x = new Coachparty();
    Check.due("nobody: settle", x.settle(), 0);
    Check.due("nobody: asked", x.asked(), 0);
    Check.due("nobody: how many rooms", x.rooms(true), 0);
    Check.due("nobody: rooms", x.rooms(false), 0);
    for (int seats = 1; seats <= 12; seats++) {
      Check.due("nobody: the set", x.split(seats, true), 0);
      Check.due("nobody: loss", x.split(seats, false), 0);
    }
    Check.due("nobody: sound", x.isSound(), true);
    tourIs("nobody", x, 0, 16, 0, 0, 0, 0, 0, 0, 0, 0, 0, 0, 480);
    x.stop(10, 5, 2000, 600);
    Check.due("nobody came", x.drive(), 0);
    tourIs("nobody, a day later", x, 1, 16, 0, 0, 0, 0, 0, 0, 0, 0, 1, 1, 495);
    Check.thrown("no guest to pair", x, Check.INDEX, () -> x.pair(0, 1, 0, 0));
    Check.thrown("no guest to pair with itself", x, Check.INDEX, () -> x.pair(0, 0, 0, 0));
    Check.thrown("no guest to move", x, Check.INDEX, () -> x.move(0, 0));
    Check.thrown("no guest to seat", x, Check.INDEX, () -> x.seat(0, 0));
    Check.thrown("no guest to be late", x, Check.INDEX, () -> x.late(0, 0));
    Check.thrown("no guest to pay", x, Check.INDEX, () -> x.pay(0, true));
    Check.thrown("no guest to cancel", x, Check.INDEX, () -> x.cancel(0));
    Check.thrown("no guest to ask for", x, Check.INDEX, () -> x.ofGuest(0, 0));
    Check.thrown("no pair to ask for", x, Check.INDEX, () -> x.ofPair(0, 0, 0));
    Check.thrown("no guest who would move", x, Check.INDEX, () -> x.would(0, 0));
  }

  /** Ten guests, but none aboard: rooms, splits, cost and breaches are of those aboard alone. */
  private static void nobodyAboard() {
    Coachparty x = Firms.waiting(10, 7);
    x.pair(0, 1, 9, 1);
    x.pair(2, 3, -9, 2);
    x.cancel(4);
    Check.due("nobody aboard: settle", x.settle(), 0);
    Check.due("nobody aboard: asked", x.asked(), 0);
    Check.due("nobody aboard: how many rooms", x.rooms(true), 0);
    Check.due("nobody aboard: rooms", x.rooms(false), 0);
    Check.due("nobody aboard: the set", x.split(1, true), 0);
    Check.due("nobody aboard: loss", x.split(1, false), 0);
    tourIs("nobody aboard", x, 0, 16, 10, 0, 0, 1, 0, 0, 0, 0, 0, 0, 480);
  }

  private static void oneGuest() {
    Coachparty x = new Coachparty();
    Check.due("the first number", x.guest(9, 9, 0, 0), 0);
    Check.due("one aboard", x.seat(0, 5), 1);
    Check.due("one is owed nothing", x.ofGuest(0, 7), 0);
    Check.due("one: cost", x.tour(6), 9 + 100);
    Check.due("one: asked", x.asked(), 1);
    Check.due("one: settle", x.settle(), 1);
    Check.due("one: on the smallest seat", x.ofGuest(0, 5), 0);
    Check.due("one: asked no more", x.asked(), 0);
    Check.due("one: a room", x.rooms(true), 1);
    Check.due("one: single", x.rooms(false), 60);
    Check.due("one: the set", x.split(1, true), 1);
    Check.due("one: loss", x.split(1, false), 0);
    Check.due("one: of itself, apart", x.ofPair(0, 0, 2), 0);
    Check.thrown("one has no other", x, Check.INDEX, () -> x.pair(0, 1, 1, 1));
    Check.thrown("one and itself", x, Check.ARGUMENT, () -> x.pair(0, 0, 1, 1));
  }

  private static void tenGuests() {
    Coachparty x = new Coachparty();
    for (int guest = 0; guest < 10; guest++) {
      Check.due("the next number", x.guest(0, guest, 4, 0), guest);
    }
    Check.thrown("an eleventh", x, Check.STATE, () -> x.guest(0, 0, 4, 0));
    x.stop(0, 0, 2000, 0);
    Check.due("ten come", x.drive(), 10);
    Check.due("on the first seats", x.row(0), "0 1|2 3");
    Check.due("on the next", x.row(1), "4 5|6 7");
    Check.due("on the last", x.row(2), "8 9|. .");
    tourIs("ten", x, 1, 16, 10, 10, 0, 0, (1 + 2 + 5 + 6 + 9) + 5, 0, 0, 0, 1, 1, 480);
    Check.due("ten: three triples and one single, or less", x.rooms(false), 420);
    Check.due("ten: in four groups", x.rooms(true), 4);
    Check.due("ten: not in twice four seats", x.split(4, true), -1);
    Check.due("ten: no loss in twice four seats", x.split(4, false), -999);
    Check.due("ten: in twice five seats", x.split(5, true), 31);
    Check.due("ten: one alone is the smallest set", x.split(9, true), 1);
    Check.due("ten: two alone, in eight and two seats", x.split(8, true), 3);
    x.pair(8, 9, -9, 2);
    Check.due("ten: the last pair", x.ofPair(9, 8, 0), -9);
    Check.due("ten: the last pair breaks its law", x.tour(7), 1);
    Check.due("ten: the last pair is parted", x.split(9, true), 1 + 256);
    x.pair(0, 9, 9, 1);
    Check.due("ten: MUST and NEVER of the last one", x.split(5, true), 1 + 2 + 4 + 8 + 512);
  }

  private static void tenInTheLargestCoach() {
    Coachparty x = Firms.waiting(10, 7);
    x.coach(5, 4);
    for (int guest = 0; guest < 10; guest++) {
      Check.due("aboard", x.seat(guest, 19 - guest), guest + 1);
    }
    Check.due("the last row", x.row(4), "3 2|1 0");
    Check.due("five free rows of ten seats", x.row(2), ". .|9 8");
    Check.due("the first row", x.row(0), ". .|. .");
    Check.due("the farthest", x.move(0, 0), 0);
    Check.due("four rows and one column", x.ofPair(0, 3, 2), 4);
    Check.due("four rows and two columns", x.ofPair(0, 1, 2), 6);
    x.move(1, 19);
    Check.due("four rows and three columns", x.ofPair(0, 1, 2), 7);
  }

  private static void noStop() {
    Coachparty x = Firms.waiting(2, 0);
    Check.thrown("no stop to drive to", x, Check.STATE, x::drive);
    Check.thrown("no stop with a delay", x, Check.INDEX, () -> x.delay(0, 0));
    Check.thrown("no stop to ask for", x, Check.INDEX, () -> x.ofStop(0, 0));
    Check.due("no stops", x.tour(10), 0);
    Check.due("no arrivals", x.tour(11), 0);
    Check.due("begin, without any", x.tour(12), 480);
    x.begin(17);
    Check.due("another begin, without any", x.tour(12), 17);
    Check.due("no stop is sound", x.isSound(), true);
  }

  private static void oneStop() {
    Coachparty x = Firms.waiting(2, 1);
    Check.due("the first number", x.stop(20, 30, 2000, 600), 0);
    Check.due("one stop", x.tour(10), 1);
    Check.due("one arrival", x.tour(11), 1);
    Check.due("leaves the last one", x.tour(12), 530);
    Check.due("who waits at the stop 1", x.drive(), 0);
    Check.due("waits still", x.ofGuest(1, 4), 0);
    Check.thrown("the stop 1", x, Check.INDEX, () -> x.delay(1, 0));
    Check.thrown("the stop 1, asked for", x, Check.INDEX, () -> x.ofStop(1, 0));
  }

  private static void eightStops() {
    Coachparty x = new Coachparty();
    for (int village = 0; village < 8; village++) {
      Check.due("the next number", x.stop(10, 5, 2000, 0), village);
      x.guest(0, 0, 4, 7 - village);
    }
    Check.thrown("a ninth", x, Check.STATE, () -> x.stop(10, 5, 2000, 0));
    Check.due("eight stops", x.tour(10), 8);
    Check.due("eight arrivals", x.tour(11), 8);
    Check.due("leaves the last one", x.tour(12), 480 + 8 * 15);
    Check.due("driven to the last one", x.ofStop(7, 4), 80);
    Check.due("one at each", x.drive(), 8);
    Check.due("stop by stop", x.row(0), "7 6|5 4");
    Check.due("up to the last one", x.row(1), "3 2|1 0");
  }

  private static void freeCoach() {
    Coachparty x = new Coachparty();
    for (int row = 0; row < 4; row++) {
      Check.due("free row", x.row(row), ". .|. .");
    }
    for (int seat = 0; seat < 16; seat++) {
      Check.due("nobody sits there", x.ofSeat(seat, 0), -1);
      Check.due("it is not out", x.ofSeat(seat, 1), 0);
    }
    Check.due("free: the smallest one", x.coach(2, 0), 8);
    Check.due("free: the largest one", x.coach(5, 0), 20);
  }

  private static void fullCoach() {
    Coachparty x = Firms.full();
    x.guest(0, 0, 4, 0);
    x.guest(0, 0, 4, 0);
    for (int seat = 0; seat < 8; seat++) {
      int told = seat;
      Check.refused("each seat is taken", Check.STATE, Firms::fullAndOneMore, y -> y.seat(8, told));
      Check.refused("each seat has a guest", Check.STATE, Firms::fullAndOneMore, y -> y.out(told, true));
    }
    x.stop(0, 0, 2000, 0);
    x.late(9, 1);
    Check.due("nobody comes aboard", x.drive(), 0);
    Check.due("left behind", x.ofGuest(8, 4), 2);
    Check.due("for want of a seat", x.ofGuest(8, 10), 1);
    Check.due("left behind, too", x.ofGuest(9, 4), 2);
    Check.due("as it was late, though none is free", x.ofGuest(9, 10), 0);
    Check.due("full", x.row(0) + "/" + x.row(1), "0 1|2 3/4 5|6 7");
    x.move(0, 7);
    Check.due("a swap", x.row(0) + "/" + x.row(1), "7 1|2 3/4 5|6 0");
  }

  private static void fullCoachAsked() {
    Coachparty x = Firms.full();
    x.pair(0, 7, 0, 1);
    Check.due("full: two swap", x.asked(), 2);
    Check.due("full: cost", x.tour(6), 100);
    Check.due("full: settle", x.settle(), 1);
    Check.due("full: 0 is beside 7 now", x.ofPair(0, 7, 2), 1);
    Check.due("full: 0 went to the smallest seat there", x.ofGuest(0, 5), 3);
    Coachparty y = Firms.full();
    y.pair(0, 7, 0, 1);
    y.pair(1, 4, 0, 2);
    Check.due("full: 1 and 7 swap, and mend both", y.asked(), 2);
    y.pair(1, 2, 0, 2);
    Check.due("full: 1 is too near to 2 there", y.asked(), 3);
    Coachparty z = Firms.full();
    z.coach(3, 1);
    z.pair(0, 7, 0, 1);
    Check.due("a row more: 0 goes behind 7", z.asked(), 1);
  }

  private static void outCoach() {
    Coachparty x = Firms.allOut();
    Check.due("out: no seats", x.tour(1), 0);
    Check.due("out: a row", x.row(0), "x x|x x");
    Check.due("out: the other row", x.row(1), "x x|x x");
    x.guest(5, 5, 0, 0);
    for (int seat = 0; seat < 8; seat++) {
      int told = seat;
      Check.due("out", x.ofSeat(seat, 1), 1);
      Check.thrown("nobody can sit there", x, Check.STATE, () -> x.seat(0, told));
    }
    x.stop(0, 300, 2000, 0);
    Check.due("nobody can come", x.drive(), 0);
    Check.due("left for want of a seat", x.ofGuest(0, 10), 1);
    Check.due("out: settle", x.settle(), 0);
    Check.due("out: asked", x.asked(), 0);
    Check.due("out: smaller it can not be", x.coach(2, 4), 8);
    Check.due("out: the new row is not", x.coach(3, 1), 12);
    Check.due("out: seats of the new row", x.tour(1), 4);
  }

  private static void oneSeatLeft() {
    Coachparty x = Firms.allOut();
    x.out(6, false);
    x.guest(0, 0, 4, 0);
    x.guest(0, 0, 0, 0);
    x.stop(0, 300, 2000, 0);
    Check.due("one seat for two", x.drive(), 1);
    Check.due("the first has it", x.ofSeat(6, 0), 0);
    Check.due("none for the other", x.ofGuest(1, 10), 1);
    Check.due("nowhere to go", x.settle(), 0);
    Check.due("its own seat alone", x.move(0, 6), 0);
    Check.due("would stay", x.would(0, 6), 0);
    Check.thrown("taken", x, Check.STATE, () -> x.out(6, true));
  }

  private static void firstDay() {
    Coachparty x = Firms.waiting(2, 7);
    x.pay(0, false);
    x.pay(1, false);
    Check.due("the day 0 at first", x.tour(0), 0);
    Check.due("day 0: all is given back", x.cancel(0), 200);
    x.stop(600, 0, 2000, 0);
    Check.due("stuck, and a day nevertheless", x.drive(), 0);
    Check.due("the day 1", x.tour(0), 1);
    Check.due("day 1: half is given back", x.cancel(1), 100);
  }

  private static void lastDay() {
    Coachparty x = Firms.waiting(4, 7);
    x.seat(0, 0);
    x.pay(1, false);
    x.stop(0, 0, 2000, 100);
    for (int day = 0; day < 59; day++) {
      Check.due("day", x.tour(0), day);
      x.drive();
    }
    Check.due("day 59: still driven", Check.answer(x::drive), 0);
    Check.due("day 60", x.tour(0), 60);
    Check.due("turns of 60 days", x.ofGuest(0, 6), 60);
    Check.due("day 60: not driven", Check.answer(x::drive), Check.STATE);
    Check.due("day 60: no turn more", x.ofGuest(0, 6), 60);
    Check.due("day 60: no day more", x.tour(0), 60);
    Check.due("day 60: half is given back", x.cancel(1), 100);
    Check.due("day 60: one can be seated", x.seat(2, 1), 2);
    Check.due("day 60: 60 turns are owed", x.ofGuest(2, 7), 60);
    Check.due("day 60: what is owed is paid", x.tour(6), 60);
    Check.due("day 60: settle", x.settle(), 1);
    Check.due("day 60: one can be told", x.guest(0, 0, 0, 0), 4);
  }

  /** "An object is used for at most 512 calls after it has been made": the last of them is answered, too. */
  private static void lastCall() {
    Coachparty x = Firms.waiting(1, 7);
    x.seat(0, 0);
    for (int call = 3; call <= 511; call++) {
      Check.due("move, call " + call, x.move(0, call % 16), 0);
    }
    Coachparty fresh = Firms.waiting(1, 7);
    fresh.seat(0, 511 % 16);
    Check.due("the call 512", x.digest(), fresh.digest());
    Coachparty y = new Coachparty();
    for (int call = 1; call <= 511; call++) {
      Check.due("wrong, call " + call, Check.answer(() -> y.out(16, true)), Check.INDEX);
    }
    Check.due("the call 512, behind wrong ones", y.digest(), new Coachparty().digest());
  }
}
