/** The sentences of "2. The road", one by one; each test has its sentence ahead of it. */
public final class RoadEdgeTests {
  public static void main(String[] args) {
    leavesTheYard();
    driveAndDelay();
    breakOnTheWay();
    breakBehindTheStay();
    breakOnALaterWay();
    breakSinceTheLastOne();
    breakThatIsAStay();
    noBreakAtTheEnd();
    latest();
    cutIsNoBreak();
    cutIsNoStay();
    stuck();
    stuckBehind();
    stuckAndCutBefore();
    breaksAreNotDriven();
    lastArrival();
    milesFirst();
    milesOfEachWay();
    quarrelsBeside();
    quarrelsRounded();
    quarrelsStay();
    whoComes();
    firstFreeSeat();
    wantOfASeat();
    late();
    lateAndNoSeat();
    lateForThisDay();
    leftBehindStays();
    dayIsOver();
    dayIsOverAlsoIfStuck();
    Check.end();
  }

  /** Arrival, 1 if cut, the leaving, breaks on the way, minutes driven. */
  private static void stopIs(String name, Coachparty x, int stop, int... due) {
    for (int what = 0; what < due.length; what++) {
      Check.due(name + ": stop " + stop + " what " + what, x.ofStop(stop, what), due[what]);
    }
  }

  private static int[] way(int drive, int stay) {
    return new int[] {drive, stay, 2000, 0};
  }

  /** "The coach leaves the yard at the minute BEGIN (480 at first)". */
  private static void leavesTheYard() {
    Coachparty x = new Coachparty();
    x.stop(0, 0, 2000, 0);
    stopIs("480 at first", x, 0, 480, 0, 480, 0, 0);
    Check.due("BEGIN before", x.begin(0), 480);
    stopIs("at 0", x, 0, 0, 0, 0, 0, 0);
    x.begin(1439);
    stopIs("at the last minute", x, 0, 1439, 0, 1439, 0, 0);
    x.drive();
    stopIs("on the next day, too", x, 0, 1439, 0, 1439, 0, 0);
  }

  /** "Each way takes DRIVE and DELAY (both are driven)". */
  private static void driveAndDelay() {
    Coachparty x = Firms.road(way(100, 10), way(50, 0));
    x.delay(0, 20);
    stopIs("a delay", x, 0, 120, 0, 130, 0, 120);
    stopIs("behind the delay", x, 1, 180, 0, 180, 0, 170);
    x.delay(0, 220);
    stopIs("a break by the delay", x, 0, 100 + 220 + 45, 0, 375, 1, 320);
    x.delay(0, 170);
    stopIs("270 by the delay", x, 0, 270, 0, 280, 0, 270);
    stopIs("a break on the next way", x, 1, 280 + 45 + 50, 0, 375, 1, 320);
    x.delay(0, 300);
    x.delay(1, 90);
    stopIs("540 by delays", x, 1, 400 + 45 + 10 + 140, 0, 595, 0, 540);
    x.delay(1, 91);
    stopIs("stuck by a delay", x, 1, -1, 0, -1, -1, -1);
  }

  /** "As the driver has driven 270 minutes .. and there is more to drive (on that way ..)". */
  private static void breakOnTheWay() {
    stopIs("269", Firms.road(way(269, 0)), 0, 269, 0, 269, 0, 269);
    stopIs("270", Firms.road(way(270, 0)), 0, 270, 0, 270, 0, 270);
    stopIs("271", Firms.road(way(271, 0)), 0, 316, 0, 316, 1, 271);
    stopIs("539", Firms.road(way(539, 0)), 0, 584, 0, 584, 1, 539);
    stopIs("540", Firms.road(way(540, 0)), 0, 585, 0, 585, 1, 540);
  }

  /** "The coach LEAVES a STOP at ARRIVAL and STAY, a BREAK as a way begins is behind that". */
  private static void breakBehindTheStay() {
    Coachparty x = Firms.road(way(270, 44), way(1, 0));
    stopIs("leaves without the break", x, 0, 270, 0, 314, 0, 270);
    stopIs("the break is on the way", x, 1, 314 + 45 + 1, 0, 360, 1, 271);
    Coachparty y = Firms.road(way(269, 0), way(1, 0), way(1, 0));
    stopIs("270 as it is come to", y, 1, 270, 0, 270, 0, 270);
    stopIs("a break as the way begins", y, 2, 316, 0, 316, 1, 271);
    Coachparty z = Firms.road(way(269, 0), way(2, 0));
    stopIs("a break behind a minute", z, 1, 316, 0, 316, 1, 271);
  }

  /** "Or on a later one, then as that begins": a way of 0 minutes has nothing to drive. */
  private static void breakOnALaterWay() {
    Coachparty x = Firms.road(way(270, 1), way(0, 2), way(0, 3), way(5, 4), way(0, 0));
    stopIs("270", x, 0, 270, 0, 271, 0, 270);
    stopIs("nothing to drive", x, 1, 271, 0, 273, 0, 270);
    stopIs("nothing to drive, again", x, 2, 273, 0, 276, 0, 270);
    stopIs("as that begins", x, 3, 276 + 45 + 5, 0, 330, 1, 275);
    stopIs("behind it", x, 4, 330, 0, 330, 0, 275);
    x.delay(1, 1);
    stopIs("a minute by a delay", x, 1, 271 + 45 + 1, 0, 319, 1, 271);
    stopIs("then no other break", x, 3, 319 + 3 + 5, 0, 331, 0, 276);
  }

  /** "270 minutes since the last BREAK (or the yard)". */
  private static void breakSinceTheLastOne() {
    Coachparty x = Firms.road(way(300, 0), way(239, 0), way(1, 0));
    stopIs("a break and 30 minutes", x, 0, 345, 0, 345, 1, 300);
    stopIs("269 since it", x, 1, 584, 0, 584, 0, 539);
    stopIs("270 since it, and no more", x, 2, 585, 0, 585, 0, 540);
    Coachparty y = Firms.road(way(90, 0), way(90, 0), way(90, 0), way(90, 0));
    stopIs("270 since the yard", y, 2, 270, 0, 270, 0, 270);
    stopIs("on the fourth way", y, 3, 405, 0, 405, 1, 360);
    Coachparty z = Firms.road(way(1, 0), way(539, 0));
    stopIs("one break, 269 minutes on the way", z, 1, 585, 0, 585, 1, 540);
  }

  /** "A STAY of 45 minutes or more is a BREAK, too"; "STAYS do not count" among those on the way. */
  private static void breakThatIsAStay() {
    Coachparty x = Firms.road(way(200, 44), way(71, 0));
    stopIs("44 are none", x, 1, 200 + 44 + 71 + 45, 0, 360, 1, 271);
    Coachparty y = Firms.road(way(200, 45), way(270, 0));
    stopIs("45 are one", y, 1, 200 + 45 + 270, 0, 515, 0, 470);
    Coachparty z = Firms.road(way(200, 46), way(271, 0));
    stopIs("46 are one; 271 since", z, 1, 200 + 46 + 271 + 45, 0, 562, 1, 471);
    Coachparty w = Firms.road(way(270, 45), way(270, 300), way(0, 0));
    stopIs("270, and a stay", w, 1, 270 + 45 + 270, 0, 885, 0, 540);
    stopIs("a long stay", w, 2, 885, 0, 885, 0, 540);
    Coachparty v = Firms.road(way(270, 0), way(0, 45), way(270, 0));
    stopIs("a stay behind a way of 0", v, 2, 270 + 45 + 270, 0, 585, 0, 540);
    Coachparty u = Firms.road(way(250, 22), way(0, 23), way(21, 0));
    stopIs("two short stays are none", u, 2, 250 + 45 + 21 + 45, 0, 361, 1, 271);
  }

  /** "And there is more to drive": no break as the last way ends. */
  private static void noBreakAtTheEnd() {
    Coachparty x = Firms.road(way(270, 0));
    Check.due("no break at the end", x.tour(12), 270);
    Coachparty y = Firms.road(way(270, 10), way(0, 0));
    Check.due("no break for a way of 0", y.tour(12), 280);
    stopIs("none on that way", y, 1, 280, 0, 280, 0, 270);
  }

  /** "If ARRIVAL is later than LATEST, the STOP is CUT". */
  private static void latest() {
    stopIs("earlier", Firms.road(new int[] {100, 7, 101, 0}), 0, 100, 0, 107, 0, 100);
    stopIs("as late as it may", Firms.road(new int[] {100, 7, 100, 0}), 0, 100, 0, 107, 0, 100);
    stopIs("a minute later", Firms.road(new int[] {100, 7, 99, 0}), 0, 100, 1, 100, 0, 100);
    Coachparty x = Firms.road(new int[] {100, 7, 100, 0});
    x.begin(1);
    stopIs("by the begin", x, 0, 101, 1, 101, 0, 100);
    x.begin(0);
    x.delay(0, 1);
    stopIs("by a delay", x, 0, 101, 1, 101, 0, 101);
    x.drive();
    stopIs("on the next day", x, 0, 100, 0, 107, 0, 100);
    stopIs("by a break", Firms.road(new int[] {271, 7, 315, 0}), 0, 316, 1, 316, 1, 271);
    Coachparty y = Firms.road(new int[] {100, 7, 100, 0}, new int[] {10, 1, 116, 0});
    stopIs("by the stay ahead", y, 1, 117, 1, 117, 0, 110);
  }

  /** "STAY is 0 there, for all that is said here": it is no break. */
  private static void cutIsNoBreak() {
    Coachparty x = Firms.road(new int[] {200, 300, 199, 0}, way(71, 0));
    stopIs("cut", x, 0, 200, 1, 200, 0, 200);
    stopIs("no break by the stay", x, 1, 200 + 71 + 45, 0, 316, 1, 271);
    Coachparty y = Firms.road(new int[] {200, 300, 200, 0}, way(71, 0));
    stopIs("not cut", y, 1, 500 + 71, 0, 571, 0, 271);
  }

  /** "STAY is 0 there, for all that is said here": who is late by a minute is left behind. */
  private static void cutIsNoStay() {
    for (int minutes = 0; minutes <= 1; minutes++) {
      Coachparty x = Firms.road(new int[] {1, 300, 0, 0});
      x.guest(0, 0, 4, 0);
      x.late(0, minutes);
      Check.due("came", x.drive(), 1 - minutes);
      Check.due("aboard or left behind", x.ofGuest(0, 4), 1 + minutes);
    }
  }

  /** "The driver may drive 540 minutes in all; where that would be passed on a way, the coach is STUCK". */
  private static void stuck() {
    stopIs("540", Firms.road(way(540, 0)), 0, 585, 0, 585, 1, 540);
    stopIs("541", Firms.road(way(541, 0)), 0, -1, 0, -1, -1, -1);
    stopIs("600", Firms.road(way(600, 0)), 0, -1, 0, -1, -1, -1);
    Coachparty x = Firms.road(way(500, 45), way(40, 0));
    stopIs("540 by two ways", x, 1, 500 + 45 + 45 + 40, 0, 630, 0, 540);
    x.delay(1, 1);
    stopIs("541 by two ways", x, 1, -1, 0, -1, -1, -1);
    Check.due("the first is reached", x.ofStop(0, 0), 545);
    Coachparty y = Firms.road(way(540, 0), way(0, 9), way(1, 0));
    stopIs("a way of 0 behind 540", y, 1, 585, 0, 594, 0, 540);
    stopIs("a minute is too much", y, 2, -1, 0, -1, -1, -1);
    Coachparty z = Firms.road(way(600, 0));
    z.delay(0, 300);
    stopIs("900", z, 0, -1, 0, -1, -1, -1);
  }

  /** "That STOP and all behind it have no ARRIVAL (NONE)". */
  private static void stuckBehind() {
    Coachparty x = Firms.road(way(540, 1), way(1, 1), way(0, 1), new int[] {0, 1, 0, 0});
    for (int stop = 1; stop < 4; stop++) {
      stopIs("no arrival, and not cut", x, stop, -1, 0, -1, -1, -1);
    }
    Check.due("arrivals", x.tour(11), 1);
    Check.due("stops", x.tour(10), 4);
    Check.due("leaves the last one with an arrival", x.tour(12), 586);
    Coachparty y = Firms.road(way(500, 0), way(41, 0), way(40, 0));
    stopIs("a short way behind it is not driven", y, 2, -1, 0, -1, -1, -1);
  }

  /** ofStop: "1 if it is CUT, otherwise 0": a stop without an arrival is not, though it was on another plan. */
  private static void stuckAndCutBefore() {
    Coachparty x = Firms.road(new int[] {300, 9, 299, 0}, new int[] {100, 9, 0, 0});
    stopIs("cut", x, 0, 345, 1, 345, 1, 300);
    stopIs("cut, too", x, 1, 445, 1, 445, 0, 400);
    x.delay(0, 241);
    stopIs("stuck by a delay", x, 0, -1, 0, -1, -1, -1);
    stopIs("stuck behind it", x, 1, -1, 0, -1, -1, -1);
    x.delay(0, 0);
    stopIs("cut again", x, 1, 445, 1, 445, 0, 400);
  }

  /** Breaks and stays are no minutes driven: "minutes driven since the yard as it is come to". */
  private static void breaksAreNotDriven() {
    Coachparty x = Firms.road(way(135, 300), way(135, 300), way(135, 300), way(135, 300));
    for (int stop = 0; stop < 4; stop++) {
      stopIs("long stays", x, stop, 135 * (stop + 1) + 300 * stop, 0, 435 * (stop + 1), 0, 135 * (stop + 1));
    }
  }

  /** tour: "of these with an ARRIVAL"; "the minute at which the coach leaves the last one of these (BEGIN ..)". */
  private static void lastArrival() {
    Coachparty x = Firms.road(way(541, 9), way(0, 0));
    Check.due("stops", x.tour(10), 2);
    Check.due("none with an arrival", x.tour(11), 0);
    Check.due("begin", x.tour(12), 0);
    x.begin(1000);
    Check.due("another begin", x.tour(12), 1000);
    Coachparty y = Firms.road(way(10, 9), new int[] {10, 9, 28, 0});
    Check.due("both have an arrival", y.tour(11), 2);
    Check.due("the last one is cut", y.tour(12), 29);
  }

  /** "First its MILES are driven .. Then GUESTS .. come aboard": who comes did not quarrel on the way to its stop. */
  private static void milesFirst() {
    Coachparty x = Firms.waiting(2, 0);
    x.pair(0, 1, -9, 0);
    x.stop(0, 0, 2000, 600);
    x.drive();
    Check.due("they came behind the miles", x.ofPair(0, 1, 3), 0);
    x.drive();
    Check.due("on the next day", x.ofPair(0, 1, 3), 54);
    Coachparty y = Firms.seated(1);
    y.guest(0, 0, 4, 0);
    y.pair(0, 1, -9, 0);
    y.stop(0, 0, 2000, 600);
    y.stop(0, 0, 2000, 100);
    y.drive();
    Check.due("behind its stop", y.ofPair(0, 1, 3), 9);
  }

  /** "STOP by STOP that has an ARRIVAL": no miles are driven to one that has none. */
  private static void milesOfEachWay() {
    Coachparty x = Firms.seated(2);
    x.pair(0, 1, -1, 0);
    x.stop(270, 0, 0, 100);
    x.stop(270, 0, 0, 200);
    x.stop(1, 0, 2000, 600);
    x.stop(0, 0, 2000, 600);
    x.drive();
    Check.due("to the two with an arrival, also if they are cut", x.ofPair(0, 1, 3), 3);
  }

  /** "Each pair ABOARD who are APART by 1 and whose BOND is below 0". */
  private static void quarrelsBeside() {
    Coachparty x = Firms.seated(5);
    x.guest(0, 0, 4, 7);
    x.pair(0, 1, -1, 0);
    x.pair(0, 2, -9, 0);
    x.pair(0, 4, -2, 0);
    x.pair(1, 2, 0, 0);
    x.pair(2, 3, 1, 0);
    x.pair(1, 4, -9, 0);
    x.pair(0, 5, -9, 0);
    x.stop(0, 0, 2000, 100);
    x.drive();
    Check.due("beside in the row", x.ofPair(0, 1, 3), 1);
    Check.due("from the other side", x.ofPair(1, 0, 3), 1);
    Check.due("behind", x.ofPair(4, 0, 3), 2);
    Check.due("apart by 2 in the row", x.ofPair(0, 2, 3), 0);
    Check.due("aslant", x.ofPair(1, 4, 3), 0);
    Check.due("a bond of 0", x.ofPair(1, 2, 3), 0);
    Check.due("a bond above 0", x.ofPair(2, 3, 3), 0);
    Check.due("one waits", x.ofPair(0, 5, 3), 0);
    int[] each = {3, 1, 0, 0, 2, 0};
    for (int guest = 0; guest < 6; guest++) {
      Check.due("quarrels of " + guest, x.ofGuest(guest, 9), each[guest]);
    }
    Check.due("of all pairs, each once", x.tour(8), 3);
    Check.due("of itself", x.ofPair(0, 0, 3), 0);
  }

  /** "-BOND * MILES / 100"; "what is divided is rounded down": pair by pair and stop by stop. */
  private static void quarrelsRounded() {
    int[][] due = {{-1, 99, 0}, {-1, 100, 1}, {-1, 199, 1}, {-9, 11, 0}, {-9, 12, 1}, {-9, 600, 54}, {-9, 0, 0},
        {-1, 600, 6}};
    for (int[] d : due) {
      Coachparty x = Firms.seated(2);
      x.pair(0, 1, d[0], 0);
      x.stop(0, 0, 2000, d[1]);
      x.drive();
      Check.due("bond " + d[0] + " miles " + d[1], x.ofPair(0, 1, 3), d[2]);
    }
    Coachparty x = Firms.seated(2);
    x.pair(0, 1, -1, 0);
    x.stop(0, 0, 2000, 99);
    x.stop(0, 0, 2000, 99);
    x.drive();
    Check.due("stop by stop", x.ofPair(0, 1, 3), 0);
    Coachparty y = Firms.seated(3);
    y.pair(0, 1, -1, 0);
    y.pair(1, 2, -1, 0);
    y.stop(0, 0, 2000, 50);
    y.drive();
    Check.due("pair by pair", y.ofGuest(1, 9), 0);
  }

  /** "Have QUARRELS more": those from before stay, whatever becomes of the bond. */
  private static void quarrelsStay() {
    Coachparty x = Firms.seated(2);
    x.pair(0, 1, -2, 0);
    x.stop(0, 0, 2000, 100);
    x.drive();
    x.drive();
    Check.due("two days", x.ofPair(0, 1, 3), 4);
    x.pair(0, 1, 9, 0);
    x.drive();
    Check.due("friends now", x.ofPair(0, 1, 3), 4);
    x.move(0, 15);
    x.pair(0, 1, -2, 0);
    x.drive();
    Check.due("far away now", x.tour(8), 4);
  }

  /** "GUESTS who WAIT and whose VILLAGE it is come aboard, GUEST by GUEST"; "how many came aboard". */
  private static void whoComes() {
    Coachparty x = new Coachparty();
    int[] villages = {1, 0, 2, 0, 1, 0};
    for (int village : villages) {
      x.guest(0, 0, 4, village);
    }
    x.stop(0, 0, 2000, 0);
    x.stop(0, 0, 2000, 0);
    x.seat(3, 15);
    x.cancel(5);
    Check.due("without who is aboard, gone, and of another village", x.drive(), 3);
    Check.due("stop by stop, guest by guest", x.row(0), "1 0|4 .");
    Check.due("who sat stays there", x.ofGuest(3, 5), 15);
    Check.due("who is gone stays so", x.ofGuest(5, 4), 3);
    Check.due("there is no stop 2", x.ofGuest(2, 4), 0);
    x.stop(0, 0, 2000, 0);
    Check.due("now there is", x.drive(), 1);
  }

  /** "Each on the first SEAT that is free and not OUT": behind its row at the most, too. */
  private static void firstFreeSeat() {
    Coachparty x = new Coachparty();
    x.out(0, true);
    x.out(2, true);
    for (int guest = 0; guest < 4; guest++) {
      x.guest(0, 0, 0, 0);
    }
    x.seat(3, 3);
    x.stop(0, 0, 2000, 0);
    Check.due("three come", x.drive(), 3);
    Check.due("the first row", x.row(0), "x 0|x 3");
    Check.due("the next row", x.row(1), "1 2|. .");
    Check.due("behind their row", x.tour(7), 2);
  }

  /** "Without any it is LEFT behind", for want of a seat. */
  private static void wantOfASeat() {
    Coachparty x = Firms.seated(7);
    x.coach(2, 1);
    x.guest(0, 0, 4, 0);
    x.guest(0, 0, 4, 0);
    x.stop(0, 60, 2000, 0);
    x.late(8, 60);
    Check.due("the last seat", x.drive(), 1);
    Check.due("the first of both has it", x.ofGuest(7, 5), 7);
    Check.due("it did not want one", x.ofGuest(7, 10), 0);
    Check.due("the other one is left behind", x.ofGuest(8, 4), 2);
    Check.due("for want of a seat, as it was not too late", x.ofGuest(8, 10), 1);
    Check.due("left behind in all", x.tour(4), 1);
    Check.due("it has no seat", x.ofGuest(8, 5), -1);
  }

  /** "Who is LATE (.. 0 to 60 minutes ..) by more than the STAY there is LEFT behind". */
  private static void late() {
    int[][] due = {{0, 0, 1}, {1, 0, 2}, {59, 59, 1}, {60, 59, 2}, {60, 60, 1}, {60, 300, 1}, {60, 0, 2}};
    for (int[] d : due) {
      Coachparty x = Firms.waiting(1, 0);
      x.stop(0, d[1], 2000, 0);
      x.late(0, d[0]);
      Check.due("came", x.drive(), 2 - d[2]);
      Check.due("late by " + d[0] + " for a stay of " + d[1], x.ofGuest(0, 4), d[2]);
      Check.due("not for want of a seat", x.ofGuest(0, 10), 0);
    }
    Coachparty x = Firms.seated(1);
    x.stop(0, 0, 2000, 0);
    x.late(0, 60);
    x.drive();
    Check.due("who is aboard can not miss it", x.ofGuest(0, 4), 1);
  }

  /** "Is LEFT behind instead (then not for want of a SEAT, even if none is free)". */
  private static void lateAndNoSeat() {
    Coachparty x = Firms.full();
    x.guest(0, 0, 4, 0);
    x.stop(0, 9, 2000, 0);
    x.late(8, 10);
    x.pay(8, false);
    x.drive();
    Check.due("left behind", x.ofGuest(8, 4), 2);
    Check.due("not for want of a seat", x.ofGuest(8, 10), 0);
    Check.due("so nothing is given back", x.cancel(8), 0);
  }

  /** "For this DAY": lateness is 0 as the day is over, also of who was not come to. */
  private static void lateForThisDay() {
    Coachparty x = Firms.waiting(2, 1);
    x.stop(540, 0, 2000, 0);
    x.stop(1, 0, 2000, 0);
    x.late(0, 60);
    x.late(1, 1);
    Check.due("stuck ahead of their village", x.drive(), 0);
    Check.due("0 waits still", x.ofGuest(0, 4), 0);
    Check.due("0 is late no more", x.late(0, 0), 0);
    Check.due("1 is late no more", x.late(1, 2), 0);
    Check.due("late as told", x.late(1, 3), 2);
  }

  /** "Who is LEFT behind stays so, until it is CANCELLED." */
  private static void leftBehindStays() {
    Coachparty x = Firms.waiting(1, 0);
    x.stop(0, 0, 2000, 0);
    x.late(0, 1);
    x.drive();
    Check.due("seats are free, and it is not late", x.drive(), 0);
    Check.due("it stays so", x.ofGuest(0, 4), 2);
    Check.thrown("it can not be seated", x, Check.STATE, () -> x.seat(0, 0));
    Check.due("left behind", x.tour(4), 1);
    x.cancel(0);
    Check.due("gone", x.ofGuest(0, 4), 3);
    Check.due("left behind no more", x.tour(4), 0);
    Check.due("gone, counted", x.tour(5), 1);
    Check.due("it does not come back", x.drive(), 0);
  }

  /** "As the DAY is over .. each GUEST ABOARD at a WINDOW has a TURN more; DELAYS .. are 0; DAY is 1 more". */
  private static void dayIsOver() {
    Coachparty x = Firms.seated(4);
    x.stop(10, 0, 2000, 0);
    x.stop(10, 0, 2000, 0);
    x.delay(0, 300);
    x.delay(1, 7);
    Check.due("by the delays", x.ofStop(1, 4), 327);
    x.drive();
    int[] turns = {1, 0, 0, 1};
    for (int guest = 0; guest < 4; guest++) {
      Check.due("turns of " + guest, x.ofGuest(guest, 6), turns[guest]);
    }
    Check.due("without delays", x.ofStop(1, 4), 20);
    Check.due("the first delay is 0", x.delay(0, 1), 0);
    Check.due("the second delay is 0", x.delay(1, 1), 0);
    Check.due("the day 1", x.tour(0), 1);
  }

  /** "(also if the coach was STUCK)": on its very first way, too. */
  private static void dayIsOverAlsoIfStuck() {
    Coachparty x = Firms.seated(2);
    x.pair(0, 1, -9, 0);
    x.guest(0, 0, 4, 0);
    x.stop(300, 0, 2000, 600);
    x.delay(0, 241);
    x.late(2, 60);
    Check.due("nobody came", x.drive(), 0);
    Check.due("a turn", x.ofGuest(0, 6), 1);
    Check.due("no turn", x.ofGuest(1, 6), 0);
    Check.due("a day", x.tour(0), 1);
    Check.due("no miles", x.tour(8), 0);
    Check.due("no delay", x.delay(0, 0), 0);
    Check.due("not late", x.late(2, 0), 0);
    Check.due("it comes on the next day", x.drive(), 1);
    Check.due("and they quarrelled on the way", x.tour(8), 54);
  }
}
