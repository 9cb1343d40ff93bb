/** The sentences of "1. The coach and the guests", one by one; each test has its sentence ahead of it. */
public final class SeatingEdgeTests {
  public static void main(String[] args) {
    seatNumbers();
    windows();
    outSeats();
    outSeatsNotThere();
    coachThatIsTooSmall();
    apart();
    must();
    never();
    rowAtTheMost();
    bothAboard();
    bondAndLaw();
    turns();
    owed();
    sickness();
    wishes();
    bondsBeside();
    breachesCost();
    moves();
    wouldTheSame();
    settleOnlyLower();
    settleMostLowered();
    settleTies();
    settleGoesOn();
    settleOnlyAboard();
    askedNone();
    askedOne();
    askedTwo();
    askedTwoTheOtherWay();
    askedSeats();
    askedSeatsThere();
    Check.end();
  }

  /** "The SEAT 4 * row + column"; "' ' between, and '|' instead of it between the columns 1 and 2". */
  private static void seatNumbers() {
    Coachparty x = Firms.waiting(1, 7);
    x.seat(0, 0);
    String[] rows = {"0 .|. .", ". 0|. .", ". .|0 .", ". .|. 0"};
    for (int seat = 0; seat < 16; seat++) {
      x.move(0, seat);
      Check.due("row of seat " + seat, x.row(seat / 4), rows[seat % 4]);
      Check.due("another row than that of seat " + seat, x.row((seat / 4 + 1) % 4), ". .|. .");
      Check.due("who sits on " + seat, x.ofSeat(seat, 0), 0);
    }
    Check.due("the greatest number of a guest", tenthOnSeat7(), ". .|. 9");
  }

  private static String tenthOnSeat7() {
    Coachparty x = Firms.waiting(10, 7);
    x.seat(9, 7);
    return x.row(1);
  }

  /** "SEATS of the columns 0 and 3 are at a WINDOW." */
  private static void windows() {
    Coachparty x = new Coachparty();
    x.coach(5, 1);
    for (int row = 0; row < 5; row++) {
      Check.due("column 0", x.ofSeat(row * 4, 2), 1);
      Check.due("column 1", x.ofSeat(row * 4 + 1, 2), 0);
      Check.due("column 2", x.ofSeat(row * 4 + 2, 2), 0);
      Check.due("column 3", x.ofSeat(row * 4 + 3, 2), 1);
    }
  }

  /** "A SEAT can be OUT (nobody can sit there)": not by a call, not by a drive, not as it is settled or asked. */
  private static void outSeats() {
    Coachparty x = new Coachparty();
    x.guest(0, 9, 0, 0);
    x.guest(0, 9, 0, 0);
    x.out(0, true);
    x.out(3, true);
    Check.due("the way of a drive", x.tour(1), 14);
    x.stop(0, 0, 2000, 0);
    x.drive();
    Check.due("both came beside it", x.row(0), "x 0|1 x");
    Check.due("no window that is not out in row 0", x.settle(), 0);
    Check.due("lawful, so nobody is asked", x.asked(), 0);
    Check.thrown("move", x, Check.STATE, () -> x.move(0, 0));
    Check.thrown("would", x, Check.STATE, () -> x.would(0, 3));
    x.out(3, false);
    Check.due("a window again", x.settle(), 1);
    Check.due("0 has it", x.row(0), "x .|1 0");
  }

  /** "SEATS that are OUT stay so, also those that are not there for a while"; "of the SEATS that there are". */
  private static void outSeatsNotThere() {
    Coachparty x = new Coachparty();
    x.coach(5, 1);
    for (int seat = 8; seat < 20; seat++) {
      Check.due("out", x.out(seat, true), seat - 7);
    }
    Check.due("with those that are out", x.coach(2, 1), 8);
    Check.due("none of the eight is out", x.tour(1), 8);
    Check.due("one of the eight", x.out(7, true), 1);
    Check.due("none of the eight", x.out(7, false), 0);
    Check.due("the row 2 again", x.coach(3, 1), 12);
    Check.due("is out", x.row(2), "x x|x x");
    Check.due("all rows again", x.coach(5, 1), 20);
    Check.due("twelve are out", x.tour(1), 8);
    Check.due("one of them no more", x.out(19, false), 11);
    Check.due("the last row", x.row(4), "x x|x .");
  }

  /** "If a GUEST ABOARD would have no SEAT any more": the last seat that stays, and the first one that goes. */
  private static void coachThatIsTooSmall() {
    for (int rows = 2; rows <= 4; rows++) {
      int fewer = rows;
      Check.refused("the first seat that goes", Check.STATE, () -> one(fewer * 4), x -> x.coach(fewer, 0));
      Check.due("the last seat that stays", one(fewer * 4 - 1).coach(fewer, 0), fewer * 4);
    }
    Coachparty x = Firms.waiting(2, 7);
    x.seat(0, 0);
    x.out(15, true);
    Check.due("who waits, and what is out, need none", x.coach(2, 1), 8);
    x.coach(4, 1);
    x.seat(1, 14);
    x.move(0, 14);
    Check.thrown("who swapped to there", x, Check.STATE, () -> x.coach(3, 1));
  }

  private static Coachparty one(int seat) {
    Coachparty x = Firms.waiting(1, 7);
    x.coach(5, 1);
    x.seat(0, seat);
    return x;
  }

  /** "APART of two SEATS: the difference of their rows and that of their columns, together." */
  private static void apart() {
    Coachparty x = Firms.waiting(3, 7);
    x.coach(5, 1);
    x.seat(0, 7);
    x.seat(1, 0);
    int[][] due = {{6, 1}, {5, 2}, {4, 3}, {3, 1}, {2, 2}, {0, 4}, {8, 4}, {11, 1}, {15, 2}, {12, 5}, {16, 6}, {19, 3}};
    for (int[] d : due) {
      x.move(1, d[0]);
      Check.due("7 and " + d[0], x.ofPair(0, 1, 2), d[1]);
      Check.due(d[0] + " and 7", x.ofPair(1, 0, 2), d[1]);
    }
    Check.due("NONE, the other one waits", x.ofPair(0, 2, 2), -1);
    Check.due("NONE, the one waits", x.ofPair(2, 0, 2), -1);
    Check.due("NONE, of itself that waits", x.ofPair(2, 2, 2), -1);
    Check.due("0, of itself aboard", x.ofPair(1, 1, 2), 0);
  }

  /** "MUST (they have to sit APART by 1)". */
  private static void must() {
    Coachparty x = Firms.waiting(2, 7);
    x.pair(0, 1, 0, 1);
    x.seat(0, 5);
    x.seat(1, 4);
    int[][] due = {{4, 0}, {6, 0}, {1, 0}, {9, 0}, {0, 1}, {2, 1}, {8, 1}, {13, 1}, {7, 1}, {15, 1}};
    for (int[] d : due) {
      Check.due("must, 5 and " + d[0], x.move(1, d[0]), d[1] * 100);
      Check.due("breaches, 5 and " + d[0], x.tour(7), d[1]);
    }
  }

  /** "NEVER (they have to sit APART by 3 or more)". */
  private static void never() {
    Coachparty x = Firms.waiting(2, 7);
    x.pair(1, 0, 0, 2);
    x.seat(0, 0);
    x.seat(1, 4);
    int[][] due = {{4, 1}, {1, 1}, {2, 1}, {5, 1}, {8, 1}, {3, 0}, {6, 0}, {9, 0}, {12, 0}, {15, 0}};
    for (int[] d : due) {
      Check.due("never, 0 and " + d[0], x.move(1, d[0]), d[1] * 100);
      Check.due("breaches, 0 and " + d[0], x.tour(7), d[1]);
    }
  }

  /** "Each GUEST ABOARD behind its ROW at the most": for each row, in that row and one behind. */
  private static void rowAtTheMost() {
    for (int row = 0; row <= 4; row++) {
      Coachparty x = new Coachparty();
      x.coach(5, 4);
      x.guest(9, 0, row, 0);
      x.seat(0, 0);
      Check.due("in the row " + row, x.move(0, row * 4 + 3), 0);
      if (row < 4) {
        Check.due("behind the row " + row, x.move(0, row * 4 + 4), 100);
        Check.due("a breach", x.tour(7), 1);
      }
    }
  }

  /** "Each pair ABOARD, both of them, whose LAW is not kept"; a guest that is not aboard is behind no row. */
  private static void bothAboard() {
    Coachparty x = new Coachparty();
    x.guest(0, 0, 0, 7);
    x.guest(0, 0, 0, 7);
    x.guest(0, 0, 4, 7);
    x.pair(0, 1, 9, 1);
    x.pair(0, 2, 9, 2);
    Check.due("nobody is aboard", x.tour(7), 0);
    x.seat(0, 0);
    Check.due("one is aboard", x.tour(7), 0);
    Check.due("nothing is to be paid", x.tour(6), 0);
    x.seat(2, 5);
    Check.due("two are aboard", x.tour(7), 1);
    x.seat(1, 8);
    Check.due("a row and a must more", x.tour(7), 3);
    Check.due("100 each", x.tour(6), 300);
  }

  /** "BOND of two GUESTS: -9 to 9 (0 at first); LAW of two: 0 none": both are of the two, from either side. */
  private static void bondAndLaw() {
    Coachparty x = Firms.waiting(3, 7);
    Check.due("bond at first", x.ofPair(0, 1, 0), 0);
    Check.due("law at first", x.ofPair(0, 1, 1), 0);
    Check.due("bond before the first", x.pair(0, 1, -9, 2), 0);
    Check.due("bond before", x.pair(1, 0, 9, 1), -9);
    Check.due("bond before, told the same way", x.pair(1, 0, 0, 0), 9);
    x.pair(2, 0, 4, 2);
    Check.due("bond from the one side", x.ofPair(0, 2, 0), 4);
    Check.due("bond from the other side", x.ofPair(2, 0, 0), 4);
    Check.due("law from the one side", x.ofPair(0, 2, 1), 2);
    Check.due("law from the other side", x.ofPair(2, 0, 1), 2);
    Check.due("another pair has none", x.ofPair(1, 2, 0) + x.ofPair(1, 2, 1), 0);
    x.cancel(2);
    Check.due("also of who is gone", x.pair(0, 2, 1, 1), 4);
  }

  /** "TURNS of a GUEST: on how many DAYS it had a WINDOW": as the day is over, not as it begins. */
  private static void turns() {
    Coachparty x = Firms.waiting(5, 0);
    for (int guest = 0; guest < 4; guest++) {
      x.seat(guest, 4 + guest);
    }
    x.stop(0, 0, 2000, 0);
    x.drive();
    int[] due = {1, 0, 0, 1, 1};
    for (int guest = 0; guest < 5; guest++) {
      Check.due("turns of " + guest, x.ofGuest(guest, 6), due[guest]);
    }
    x.move(0, 5);
    x.drive();
    Check.due("0 lost its window", x.ofGuest(0, 6), 1);
    Check.due("1 has it", x.ofGuest(1, 6), 1);
    Check.due("4 has its own", x.ofGuest(4, 6), 2);
  }

  /** "OWED: the most TURNS of all GUESTS ABOARD, less its own"; "0, if it is not ABOARD". */
  private static void owed() {
    Coachparty x = Firms.waiting(3, 7);
    x.seat(0, 0);
    x.seat(1, 1);
    x.stop(0, 0, 2000, 0);
    x.drive();
    x.drive();
    Check.due("the one with the most", x.ofGuest(0, 7), 0);
    Check.due("the one with none", x.ofGuest(1, 7), 2);
    Check.due("who waits", x.ofGuest(2, 7), 0);
    x.move(1, 0);
    x.drive();
    Check.due("one turn of three", x.ofGuest(1, 7), 1);
    Check.due("as its window is no more", x.tour(6), 0);
    Check.due("what it is owed is paid without one", x.move(1, 2), 1);
    x.seat(2, 3);
    Check.due("who comes at a window is owed", x.ofGuest(2, 7), 2);
    Check.due("and is not paid there", x.tour(6), 1);
  }

  /** "SICK * how many rows its row is behind AXLE (0 at least)". */
  private static void sickness() {
    Coachparty x = new Coachparty();
    x.coach(5, 2);
    x.guest(9, 0, 4, 0);
    x.seat(0, 0);
    int[] due = {0, 0, 0, 9, 18};
    for (int row = 0; row < 5; row++) {
      Check.due("row " + row, x.move(0, row * 4), due[row]);
    }
    int[] byAxle = {36, 27, 18, 9, 0};
    for (int axle = 0; axle < 5; axle++) {
      x.coach(5, axle);
      Check.due("axle " + axle, x.tour(6), byAxle[axle]);
    }
    Coachparty y = new Coachparty();
    y.guest(9, 0, 4, 0);
    Check.due("who waits is not sick", y.tour(6), 0);
  }

  /** "If it is not at a WINDOW, WISH and OWED". */
  private static void wishes() {
    Coachparty x = new Coachparty();
    x.guest(0, 9, 4, 7);
    x.guest(0, 0, 4, 7);
    x.seat(0, 0);
    int[] due = {0, 9, 9, 0};
    for (int column = 0; column < 4; column++) {
      Check.due("wish in the column " + column, x.move(0, 4 + column), due[column]);
    }
    x.seat(1, 0);
    x.move(0, 2);
    x.stop(0, 0, 2000, 0);
    x.drive();
    Check.due("wish and owed", x.tour(6), 9 + 1);
    Check.due("neither at a window", x.move(0, 3), 0);
  }

  /** "For each pair ABOARD who are APART by 1, less their BOND"; "It can be below 0." */
  private static void bondsBeside() {
    Coachparty x = Firms.seated(3);
    x.pair(0, 1, 9, 0);
    Check.due("below 0", x.tour(6), -9);
    x.pair(1, 2, 9, 0);
    x.pair(0, 2, 9, 0);
    Check.due("apart by 2 is not beside", x.tour(6), -18);
    Check.due("two beside the one in the corner", x.move(2, 4), -18);
    x.pair(0, 1, -9, 0);
    Check.due("a bond below 0", x.tour(6), 0);
    x.pair(0, 1, 0, 0);
    Check.due("no bond", x.tour(6), -9);
    Coachparty y = Firms.waiting(2, 7);
    y.pair(0, 1, 9, 0);
    y.seat(0, 0);
    Check.due("one of both waits", y.tour(6), 0);
  }

  /** "100 for each BREACH"; "Without BREACHES the SEATING is LAWFUL." */
  private static void breachesCost() {
    Coachparty x = Firms.seated(8);
    for (int one = 0; one < 8; one++) {
      for (int other = one + 1; other < 8; other++) {
        x.pair(one, other, 0, 2);
      }
    }
    int breaches = x.tour(7);
    int near = 0;
    for (int one = 0; one < 8; one++) {
      for (int other = one + 1; other < 8; other++) {
        near += x.ofPair(one, other, 2) < 3 ? 1 : 0;
      }
    }
    Check.due("each pair that is near", breaches, near);
    Check.due("20 of 28 are", breaches, 20);
    Check.due("100 each", x.tour(6), 2000);
  }

  /** "A GUEST ABOARD goes to a SEAT that is not OUT; who sits there goes to its SEAT." */
  private static void moves() {
    Coachparty x = Firms.seated(3);
    x.move(0, 15);
    Check.due("a free seat: the old one is free", x.row(0) + x.row(3), ". 1|2 .. .|. 0");
    x.move(0, 1);
    Check.due("a taken one: they swap", x.row(0) + x.row(3), ". 0|2 .. .|. 1");
    x.move(0, 1);
    Check.due("its own: nothing", x.row(0) + x.row(3), ". 0|2 .. .|. 1");
    Check.due("all are aboard", x.tour(3), 3);
    x.out(0, true);
    Check.thrown("out", x, Check.STATE, () -> x.move(0, 0));
  }

  /** would: "by how much COST would be more by that MOVE (also below 0)": for each guest and seat as move tells. */
  private static void wouldTheSame() {
    for (int guest : new int[] {0, 1, 2, 3, 8}) {
      for (int seat = 0; seat < 12; seat++) {
        if (seat != 5) {
          Coachparty x = Firms.busy();
          int before = x.tour(6);
          int more = x.would(guest, seat);
          Check.due("would " + guest + " " + seat, more, x.move(guest, seat) - before);
          Check.due("cost behind it", x.tour(6), before + more);
        }
      }
    }
    Check.due("its own seat", Firms.busy().would(8, 11), 0);
  }

  /** "As long as a MOVE lowers COST": a move that leaves it as it is, is not made. */
  private static void settleOnlyLower() {
    Coachparty x = Firms.seated(10);
    Check.due("no move lowers 0", x.settle(), 0);
    Check.due("nobody moved", x.row(0) + x.row(1) + x.row(2), "0 1|2 34 5|6 78 9|. .");
    x.pair(0, 1, -1, 0);
    Check.due("a move that lowers it by 1", x.settle(), 1);
    Check.due("then it is 0", x.tour(6), 0);
    Coachparty y = new Coachparty();
    y.guest(0, 5, 4, 0);
    y.seat(0, 7);
    Check.due("it has a window", y.settle(), 0);
    Check.due("and does not go to a smaller seat", y.ofGuest(0, 5), 7);
  }

  /** "The MOVE by which it is lowered most is made": not the first one that lowers it. */
  private static void settleMostLowered() {
    Coachparty x = new Coachparty();
    x.guest(0, 3, 4, 7);
    x.guest(0, 8, 4, 7);
    x.seat(0, 1);
    x.seat(1, 2);
    x.coach(2, 1);
    for (int seat : new int[] {0, 4, 5, 6, 7}) {
      x.out(seat, true);
    }
    Check.due("the only window is for the greater wish", x.settle(), 1);
    Check.due("1 has it", x.row(0), "x 0|. 1");

    Coachparty y = new Coachparty();
    y.guest(0, 1, 4, 7);
    y.guest(0, 0, 4, 7);
    y.seat(0, 1);
    y.seat(1, 6);
    y.pair(0, 1, 3, 0);
    Check.due("beside at a window: the smallest seat is not it", y.settle(), 1);
    Check.due("0 went to 7", y.ofGuest(0, 5), 7);
  }

  /** "Of several that of the smallest GUEST, then to the smallest SEAT". */
  private static void settleTies() {
    Coachparty x = new Coachparty();
    x.guest(0, 5, 4, 7);
    x.guest(0, 5, 4, 7);
    x.seat(1, 1);
    x.seat(0, 2);
    x.coach(2, 1);
    x.out(0, true);
    x.out(4, true);
    x.out(7, true);
    Check.due("one window for two", x.settle(), 1);
    Check.due("the smallest guest has it", x.row(0), "x 1|. 0");

    Coachparty y = new Coachparty();
    y.guest(0, 5, 4, 7);
    y.seat(0, 9);
    y.out(0, true);
    Check.due("of the windows", y.settle(), 1);
    Check.due("the smallest seat that is not out", y.ofGuest(0, 5), 3);

    // 1 has the only window: a swap is the move of 0 to its seat and of 1 to the seat of 0; it is counted once.
    Coachparty z = new Coachparty();
    z.guest(0, 5, 4, 7);
    z.guest(0, 1, 4, 7);
    z.coach(2, 1);
    z.seat(0, 1);
    z.seat(1, 0);
    for (int seat = 2; seat < 8; seat++) {
      z.out(seat, true);
    }
    Check.due("a swap", z.settle(), 1);
    Check.due("0 at the window", z.row(0), "0 1|x x");
  }

  /** "How many MOVES were made": each one that follows, too. */
  private static void settleGoesOn() {
    Coachparty x = Firms.waiting(0, 7);
    for (int guest = 0; guest < 4; guest++) {
      x.guest(0, 9 - guest, 4, 7);
      x.seat(guest, guest % 2 + 1 + guest / 2 * 4);
    }
    Check.due("four moves", x.settle(), 4);
    Check.due("to four windows, the greatest wish first", x.row(0) + x.row(1) + x.row(2), "0 .|. 12 .|. 3. .|. .");
    Check.due("no more", x.settle(), 0);
    Check.due("cost", x.tour(6), 0);
  }

  /** "A GUEST ABOARD goes to a SEAT": who waits or is gone stays where it is, and keeps nobody from moving. */
  private static void settleOnlyAboard() {
    Coachparty x = new Coachparty();
    for (int guest = 0; guest < 4; guest++) {
      x.guest(0, 5, 4, 7);
    }
    x.pair(0, 2, 9, 0);
    x.pair(2, 3, 9, 0);
    x.cancel(1);
    x.seat(2, 6);
    Check.due("one has no window", x.settle(), 1);
    Check.due("it has one now", x.row(0) + "/" + x.row(1), "2 .|. ./. .|. .");
    Check.due("cost", x.tour(6), 0);
    int[] states = {0, 3, 1, 0};
    for (int guest = 0; guest < 4; guest++) {
      Check.due("state of " + guest, x.ofGuest(guest, 4), states[guest]);
      Check.due("seat of " + guest, x.ofGuest(guest, 5), guest == 2 ? 0 : -1);
    }
  }

  /** asked: "0, 1 or 2; 3 if that is not enough": 0, if the seating is lawful, however dear it is. */
  private static void askedNone() {
    Coachparty x = new Coachparty();
    x.coach(5, 0);
    x.guest(9, 9, 4, 0);
    x.guest(9, 9, 4, 0);
    x.pair(0, 1, -9, 1);
    x.seat(0, 17);
    x.seat(1, 18);
    Check.due("dear, but lawful", x.asked(), 0);
  }

  /** One has to go, to a seat that is free. */
  private static void askedOne() {
    Coachparty x = new Coachparty();
    x.guest(0, 0, 0, 0);
    x.guest(0, 0, 4, 0);
    x.guest(0, 0, 4, 0);
    x.seat(0, 4);
    x.seat(1, 0);
    x.seat(2, 1);
    x.out(2, true);
    Check.due("the one free seat of the row 0", x.asked(), 1);
    x.pair(0, 2, 0, 2);
    Check.due("too near to 2 there", x.asked(), 2);
    x.out(3, true);
    Check.due("no free seat there: 1 or 2 makes room", x.asked(), 2);
    x.pair(0, 1, 0, 2);
    Check.due("both are too near there", x.asked(), 3);
  }

  /** Two go; each may take the seat of the other, or one that is free. */
  private static void askedTwo() {
    Coachparty x = new Coachparty();
    x.coach(2, 1);
    x.guest(0, 0, 0, 0);
    x.guest(0, 0, 4, 0);
    x.guest(0, 0, 0, 0);
    x.seat(0, 4);
    x.seat(1, 0);
    for (int seat : new int[] {1, 2, 3, 5, 6, 7}) {
      x.out(seat, true);
    }
    Check.due("no seat is free: they swap", x.asked(), 2);
    x.out(5, false);
    x.seat(2, 5);
    Check.due("two want the one seat of the row 0", x.asked(), 3);
    x.out(3, false);
    Check.due("a seat for one, the other needs that of 1: three go", x.asked(), 3);
    x.out(2, false);
    Check.due("a seat for each", x.asked(), 2);
  }

  /** The seat 0 is for the greater number of both, and the last one for the smaller. */
  private static void askedTwoTheOtherWay() {
    Coachparty x = new Coachparty();
    x.coach(2, 1);
    x.guest(0, 0, 4, 0);
    x.guest(0, 0, 0, 0);
    x.seat(0, 0);
    x.seat(1, 7);
    for (int seat = 1; seat < 7; seat++) {
      x.out(seat, true);
    }
    Check.due("they swap", x.asked(), 2);
    Check.due("they did not", x.row(0) + "/" + x.row(1), "0 x|x x/x x|x 1");
    x.coach(3, 1);
    Check.due("a free row more is of no use to 1", x.asked(), 2);
    x.out(3, false);
    Check.due("a free seat in the row 0 is", x.asked(), 1);
  }

  /** Only the seats that there are: none behind the last row, though nobody sits there and it is not out. */
  private static void askedSeatsThere() {
    for (int rows = 2; rows <= 4; rows++) {
      int last = rows * 4 - 4;
      Coachparty x = Firms.waiting(2, 7);
      x.coach(rows, 1);
      x.pair(0, 1, 0, 1);
      x.seat(0, last);
      x.seat(1, 3);
      for (int seat = 0; seat < rows * 4; seat++) {
        if (seat != last && seat != 3) {
          x.out(seat, true);
        }
      }
      Check.due("no seat behind the last row of " + rows, x.asked(), 3);
      Check.due("nobody can be settled there", x.settle(), 0);
      x.coach(rows + 1, 1);
      Check.due("a seat behind it, a row more than " + rows, x.asked(), 1);
    }
  }

  /** "All SEATS that are not OUT can be taken that are free, or of those who go": no seat of one who stays. */
  private static void askedSeats() {
    Coachparty x = Firms.waiting(3, 7);
    x.coach(2, 1);
    x.pair(0, 1, 0, 1);
    x.seat(0, 0);
    x.seat(1, 3);
    x.seat(2, 1);
    x.out(2, true);
    for (int seat = 4; seat < 8; seat++) {
      x.out(seat, true);
    }
    Check.due("2 and 1 swap; or 0 and 2, which is not enough", x.asked(), 2);
    x.pair(1, 2, 0, 2);
    Check.due("2 may not be near to 1", x.asked(), 3);
    x.pair(1, 2, 0, 0);
    x.out(4, false);
    Check.due("1 goes behind 0, to the free seat", x.asked(), 1);
    x.out(4, true);
    x.out(7, false);
    Check.due("0 goes behind 1", x.asked(), 1);
  }
}
