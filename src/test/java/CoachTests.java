/** Promises 1 to 8: the coach and the guests. */
public final class CoachTests {
  public static void main(String[] args) {
    promise1New();
    promise2Coach();
    promise3Out();
    promise4Guest();
    promise5Pair();
    promise6Move();
    promise6CostParts();
    promise6Breaches();
    promise7Settle();
    promise8Seat();
    Check.end();
  }

  private static void promise1New() {
    Coachparty x = new Coachparty();
    int[] tour = {0, 16, 0, 0, 0, 0, 0, 0, 0, 0, 0, 0, 480};
    for (int what = 0; what < tour.length; what++) {
      Check.due("tour of a new object " + what, x.tour(what), tour[what]);
    }
    Check.due("BEGIN at first", x.begin(0), 480);
    Check.due("PRICE at first", x.price(0), 200);
    Check.due("DOUBLE at first", x.rates(0, 0, 0), 90);
    Check.due("its seats are free", x.row(3), ". .|. .");
    Coachparty other = new Coachparty();
    x.guest(0, 0, 0, 0);
    Check.due("objects share nothing", other.tour(2), 0);
  }

  private static void promise2Coach() {
    Coachparty x = new Coachparty();
    Check.due("two rows", x.coach(2, 0), 8);
    Check.due("five rows", x.coach(5, 4), 20);
    Check.thrown("one row", x, Check.ARGUMENT, () -> x.coach(1, 0));
    Check.thrown("six rows", x, Check.ARGUMENT, () -> x.coach(6, 0));
    Check.thrown("axle below 0", x, Check.ARGUMENT, () -> x.coach(4, -1));
    Check.thrown("axle 5", x, Check.ARGUMENT, () -> x.coach(4, 5));
    x.out(19, true);
    x.out(3, true);
    Check.due("seats with those that are out", x.coach(3, 1), 12);
    Check.due("out seats that are there", x.tour(1), 11);
    Check.due("five rows again", x.coach(5, 1), 20);
    Check.due("seat 19 stayed out", x.ofSeat(19, 1), 1);
    x.guest(0, 0, 4, 7);
    x.seat(0, 12);
    Check.thrown("the guest on 12 would have no seat", x, Check.STATE, () -> x.coach(3, 0));
    Check.thrown("the argument goes first", x, Check.ARGUMENT, () -> x.coach(1, 0));
    Check.due("row 3 is enough", x.coach(4, 1), 16);
    x.move(0, 11);
    Check.due("the last seat of three rows", x.coach(3, 1), 12);
    Check.due("the axle may be behind the coach", x.coach(3, 4), 12);
  }

  private static void promise3Out() {
    Coachparty x = new Coachparty();
    Check.due("one is out", x.out(5, true), 1);
    Check.due("out again", x.out(5, true), 1);
    Check.due("two are out", x.out(15, true), 2);
    Check.due("one is no more", x.out(5, false), 1);
    Check.thrown("seat 16 of four rows", x, Check.INDEX, () -> x.out(16, true));
    Check.thrown("seat -1", x, Check.INDEX, () -> x.out(-1, true));
    x.coach(2, 1);
    Check.due("only those that are there count", x.out(0, true), 1);
    x.guest(0, 0, 4, 7);
    x.seat(0, 1);
    Check.thrown("taken", x, Check.STATE, () -> x.out(1, true));
    Check.thrown("taken, and not to be out", x, Check.STATE, () -> x.out(1, false));
    Check.thrown("not there now", x, Check.INDEX, () -> x.out(8, false));
  }

  private static void promise4Guest() {
    Coachparty x = new Coachparty();
    int[][] bad = {{-1, 0, 0, 0}, {10, 0, 0, 0}, {0, -1, 0, 0}, {0, 10, 0, 0}, {0, 0, -1, 0}, {0, 0, 5, 0},
        {0, 0, 0, -1}, {0, 0, 0, 8}};
    for (int[] b : bad) {
      Check.thrown("a wrong guest", x, Check.ARGUMENT, () -> x.guest(b[0], b[1], b[2], b[3]));
    }
    Check.due("the first", x.guest(9, 8, 4, 7), 0);
    int[] facts = {9, 8, 4, 7, 0, -1, 0, 0, 0, 0, 0};
    for (int what = 0; what < facts.length; what++) {
      Check.due("of the new guest " + what, x.ofGuest(0, what), facts[what]);
    }
    for (int guest = 1; guest < 10; guest++) {
      Check.due("the next", x.guest(0, 0, 0, 0), guest);
    }
    Check.thrown("an eleventh", x, Check.STATE, () -> x.guest(0, 0, 0, 0));
    Check.thrown("the argument goes first", x, Check.ARGUMENT, () -> x.guest(0, 0, 0, 8));
    x.cancel(4);
    Check.thrown("who is gone counts", x, Check.STATE, () -> x.guest(0, 0, 0, 0));
  }

  private static void promise5Pair() {
    Coachparty x = new Coachparty();
    x.guest(0, 0, 4, 7);
    x.guest(0, 0, 4, 7);
    Check.due("bond at first", x.pair(0, 1, 9, 1), 0);
    Check.due("bond before, from the other side", x.pair(1, 0, -9, 2), 9);
    Check.due("bond", x.ofPair(0, 1, 0), -9);
    Check.due("law from the other side", x.ofPair(1, 0, 1), 2);
    Check.thrown("no guest 2", x, Check.INDEX, () -> x.pair(2, 0, 0, 0));
    Check.thrown("no guest 2 as the other", x, Check.INDEX, () -> x.pair(0, 2, 0, 0));
    Check.thrown("no guest -1", x, Check.INDEX, () -> x.pair(0, -1, 0, 0));
    Check.thrown("the index goes first", x, Check.INDEX, () -> x.pair(2, 2, 10, 3));
    Check.thrown("with itself", x, Check.ARGUMENT, () -> x.pair(1, 1, 0, 0));
    Check.thrown("bond 10", x, Check.ARGUMENT, () -> x.pair(0, 1, 10, 0));
    Check.thrown("bond -10", x, Check.ARGUMENT, () -> x.pair(0, 1, -10, 0));
    Check.thrown("law 3", x, Check.ARGUMENT, () -> x.pair(0, 1, 0, 3));
    Check.thrown("law -1", x, Check.ARGUMENT, () -> x.pair(0, 1, 0, -1));
    x.cancel(0);
    Check.due("who is gone has its pairs still", x.pair(0, 1, 4, 0), -9);
  }

  private static void promise6Move() {
    Coachparty x = Firms.seated(2);
    x.pair(0, 1, 5, 0);
    Check.due("to a free seat", x.move(0, 7), 0);
    Check.due("its seat is free", x.row(0), ". 1|. .");
    Check.due("it sits there", x.row(1), ". .|. 0");
    Check.due("beside its friend", x.move(0, 5), -5);
    Check.due("a swap", x.move(1, 5), -5);
    Check.due("1 has the seat", x.ofSeat(5, 0), 1);
    Check.due("0 has that of 1", x.ofSeat(1, 0), 0);
    Check.due("to its own seat", x.move(0, 1), -5);
    Check.due("it is still there", x.ofGuest(0, 5), 1);
    x.guest(0, 0, 4, 7);
    x.out(9, true);
    Check.thrown("no such guest", x, Check.INDEX, () -> x.move(3, 0));
    Check.thrown("guest -1", x, Check.INDEX, () -> x.move(-1, 0));
    Check.thrown("no such seat", x, Check.INDEX, () -> x.move(0, 16));
    Check.thrown("seat -1, of one who waits", x, Check.INDEX, () -> x.move(2, -1));
    Check.thrown("who waits", x, Check.STATE, () -> x.move(2, 0));
    Check.thrown("to a seat that is out", x, Check.STATE, () -> x.move(0, 9));
  }

  private static void promise6CostParts() {
    Coachparty x = new Coachparty();
    x.guest(7, 4, 4, 0);
    x.seat(0, 0);
    Check.due("ahead of the axle", x.tour(6), 0);
    Check.due("on the axle, no window", x.move(0, 5), 4);
    Check.due("two rows behind, at a window", x.move(0, 12), 14);
    Check.due("two rows behind, no window", x.move(0, 14), 18);
    x.coach(4, 0);
    Check.due("another axle", x.tour(6), 25);
    x.coach(4, 4);
    Check.due("an axle behind the coach", x.tour(6), 4);
    x.guest(0, 3, 4, 0);
    x.seat(1, 3);
    x.stop(0, 0, 2000, 0);
    x.drive();
    x.drive();
    Check.due("turns of who has a window", x.ofGuest(1, 6), 2);
    Check.due("owed to the other", x.ofGuest(0, 7), 2);
    Check.due("wish and owed", x.tour(6), 6);
    Check.due("owed is not paid at a window", x.move(0, 12), 0);
    Check.due("who had the turns is owed nothing", x.move(1, 1), 3);
    x.pair(0, 1, -8, 0);
    Check.due("a bond below 0 beside", x.move(0, 0), 11);
    x.pair(0, 1, 8, 0);
    Check.due("a bond above 0 beside", x.tour(6), -5);
    Check.due("the one behind is beside, too", x.move(0, 5), 1);
    Check.due("aslant is not beside", x.move(0, 4), 3);
  }

  private static void promise6Breaches() {
    Coachparty x = new Coachparty();
    x.guest(0, 0, 1, 0);
    x.seat(0, 7);
    Check.due("in its last row", x.tour(7), 0);
    Check.due("behind it", x.move(0, 8), 100);
    Check.due("a breach", x.tour(7), 1);
    x.move(0, 0);
    x.guest(0, 0, 4, 0);
    x.pair(0, 1, 0, 1);
    Check.due("one of both waits", x.tour(7), 0);
    x.seat(1, 1);
    Check.due("must, beside", x.tour(7), 0);
    Check.due("must, across the row", x.move(1, 2), 100);
    Check.due("must, behind", x.move(1, 4), 0);
    x.pair(0, 1, 0, 2);
    Check.due("never, apart by 1", x.tour(6), 100);
    Check.due("never, apart by 2", x.move(1, 5), 100);
    Check.due("never, apart by 3", x.move(1, 6), 0);
    Check.due("never, apart by 3 in a row", x.move(1, 3), 0);
    Check.due("two breaches", x.move(0, 8) - x.move(0, 0), 100);
    x.guest(0, 0, 0, 0);
    x.seat(2, 12);
    x.pair(0, 2, 0, 1);
    Check.due("a row and a must", x.tour(7), 2);
    Check.due("each costs 100", x.tour(6), 200);
  }

  private static void promise7Settle() {
    Coachparty x = new Coachparty();
    Check.due("nobody to settle", x.settle(), 0);
    x.guest(0, 5, 4, 7);
    x.seat(0, 5);
    Check.due("one move to a window", x.settle(), 1);
    Check.due("to the smallest seat", x.ofGuest(0, 5), 0);
    Check.due("no move lowers it", x.settle(), 0);

    Coachparty y = new Coachparty();
    y.guest(0, 0, 4, 7);
    y.guest(0, 3, 4, 7);
    y.seat(0, 0);
    y.seat(1, 5);
    y.pair(0, 1, 1, 0);
    Check.due("of 4, 7 and others the one beside 0", y.settle(), 1);
    Check.due("behind 0 at the window", y.ofGuest(1, 5), 4);
    Check.due("cost", y.tour(6), -1);

    // A swap of 0 and 1 and a way of 2 to a window lower it by the same: the smaller guest goes first.
    Coachparty z = new Coachparty();
    z.coach(2, 1);
    z.guest(0, 4, 4, 7);
    z.guest(0, 0, 4, 7);
    z.guest(0, 4, 4, 7);
    z.seat(0, 1);
    z.seat(1, 0);
    z.seat(2, 5);
    z.out(3, true);
    z.out(7, true);
    Check.due("two moves", z.settle(), 2);
    Check.due("0 went to the smallest seat", z.row(0), "0 1|. x");
    Check.due("2 went to the other window", z.row(1), "2 .|. x");

    Coachparty w = Firms.seated(2);
    w.pair(0, 1, 0, 2);
    w.coach(4, 1);
    Check.due("a breach is mended", w.settle(), 1);
    Check.due("0 goes to the smallest seat that is apart by 3", w.ofGuest(0, 5), 7);
    Check.due("lawful", w.tour(7), 0);
  }

  private static void promise8Seat() {
    Coachparty x = new Coachparty();
    x.guest(0, 0, 0, 0);
    x.guest(0, 0, 4, 0);
    x.guest(0, 0, 4, 0);
    x.out(4, true);
    Check.due("one aboard", x.seat(1, 3), 1);
    Check.due("two aboard, behind its row at the most", x.seat(0, 15), 2);
    Check.due("aboard", x.ofGuest(0, 4), 1);
    Check.due("its seat", x.ofGuest(0, 5), 15);
    Check.thrown("no such guest", x, Check.INDEX, () -> x.seat(3, 0));
    Check.thrown("guest -1", x, Check.INDEX, () -> x.seat(-1, 0));
    Check.thrown("no such seat", x, Check.INDEX, () -> x.seat(2, 16));
    Check.thrown("no such seat, and aboard", x, Check.INDEX, () -> x.seat(1, -1));
    Check.thrown("aboard", x, Check.STATE, () -> x.seat(1, 0));
    Check.thrown("out", x, Check.STATE, () -> x.seat(2, 4));
    Check.thrown("taken", x, Check.STATE, () -> x.seat(2, 3));
    x.cancel(2);
    Check.thrown("gone", x, Check.STATE, () -> x.seat(2, 0));
    x.guest(0, 0, 0, 0);
    x.stop(0, 0, 2000, 0);
    x.late(3, 1);
    x.drive();
    Check.thrown("left behind", x, Check.STATE, () -> x.seat(3, 0));
  }
}
