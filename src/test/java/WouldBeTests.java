/** Promises 24 to 29: what would be. */
public final class WouldBeTests {
  public static void main(String[] args) {
    promise24Would();
    promise25Asked();
    promise25AskedTwo();
    promise26Rooms();
    promise27Split();
    promise28IsSound();
    promise29Digest();
    Check.end();
  }

  private static void promise24Would() {
    Coachparty x = new Coachparty();
    x.guest(3, 5, 2, 0);
    x.guest(0, 2, 4, 0);
    x.guest(0, 0, 4, 0);
    x.pair(0, 1, 4, 0);
    x.seat(0, 0);
    x.seat(1, 1);
    String before = Check.snapshot(x);
    Check.due("to a free seat", x.would(0, 14), 5 + 6 + 100 + 4);
    Check.due("a swap", x.would(0, 1), 5 - 2);
    Check.due("the same swap", x.would(1, 0), 3);
    Check.due("below 0", x.would(1, 4), -2);
    Check.due("its own seat", x.would(0, 0), 0);
    Check.due("nothing is changed", Check.snapshot(x), before);
    Check.due("as the move then says", x.move(0, 14), 2 - 4 + 115);
    x.out(9, true);
    Check.thrown("no such guest", x, Check.INDEX, () -> x.would(3, 0));
    Check.thrown("no such seat, of one who waits", x, Check.INDEX, () -> x.would(2, 16));
    Check.thrown("seat -1", x, Check.INDEX, () -> x.would(0, -1));
    Check.thrown("who waits", x, Check.STATE, () -> x.would(2, 0));
    Check.thrown("out", x, Check.STATE, () -> x.would(0, 9));
  }

  private static void promise25Asked() {
    Coachparty x = new Coachparty();
    Check.due("nobody", x.asked(), 0);
    x.guest(0, 0, 0, 0);
    x.seat(0, 4);
    Check.due("one has to go ahead", x.asked(), 1);
    String before = Check.snapshot(x);
    x.asked();
    Check.due("nothing is changed", Check.snapshot(x), before);
    for (int seat = 0; seat < 4; seat++) {
      x.out(seat, true);
    }
    Check.due("all seats there are out", x.asked(), 3);
    x.out(2, false);
    Check.due("one seat is not", x.asked(), 1);
    x.move(0, 2);
    Check.due("lawful", x.asked(), 0);
  }

  private static void promise25AskedTwo() {
    Coachparty x = new Coachparty();
    x.coach(2, 0);
    x.guest(0, 0, 0, 0);
    x.guest(0, 0, 4, 0);
    x.seat(0, 4);
    x.seat(1, 0);
    x.out(1, true);
    x.out(2, true);
    x.out(3, true);
    Check.due("both have to go, as they swap", x.asked(), 2);
    x.out(3, false);
    Check.due("a free seat is there", x.asked(), 1);
    x.out(3, true);
    x.guest(0, 0, 0, 0);
    x.seat(2, 5);
    Check.due("one seat for two", x.asked(), 3);
    x.out(3, false);
    Check.due("each has one, one of them that of 1, who goes too", x.asked(), 3);
    x.out(2, false);
    Check.due("two seats are free", x.asked(), 2);

    Coachparty y = Firms.seated(3);
    y.pair(0, 1, 0, 2);
    y.pair(1, 2, 0, 2);
    y.pair(0, 2, 0, 2);
    Check.due("three who must not be near, of them two go", y.asked(), 2);
    y.pair(0, 2, 0, 0);
    Check.due("the one between goes", y.asked(), 1);
    y.pair(0, 2, 0, 1);
    Check.due("must, and the one between goes", y.asked(), 2);

    Coachparty z = Firms.seated(2);
    z.coach(2, 0);
    z.guest(0, 0, 0, 7);
    z.seat(2, 4);
    z.pair(0, 2, 0, 2);
    z.pair(1, 2, 0, 1);
    Check.due("no other seat of one is far from 0 and beside 1", z.asked(), 2);
    Coachparty w = Firms.seated(2);
    w.pair(0, 1, 0, 1);
    w.move(1, 15);
    w.coach(4, 0);
    for (int seat = 1; seat < 15; seat++) {
      w.out(seat, seat != 7);
    }
    Check.due("the one free seat is not beside 0, but beside that of 1", w.asked(), 3);
    w.out(11, false);
    Check.due("0 goes beside 1", w.asked(), 1);
  }

  private static void promise26Rooms() {
    Coachparty x = new Coachparty();
    Check.due("nobody, how many", x.rooms(true), 0);
    Check.due("nobody, what they cost", x.rooms(false), 0);
    x.guest(0, 0, 4, 7);
    Check.due("who waits has no room", x.rooms(true), 0);
    x.seat(0, 0);
    Check.due("one", x.rooms(false), 60);
    for (int guest = 1; guest < 5; guest++) {
      x.guest(0, 0, 4, 7);
      x.seat(guest, guest);
    }
    Check.due("a triple and a double", x.rooms(false), 210);
    Check.due("two groups", x.rooms(true), 2);
    x.rates(40, 80, 120);
    Check.due("the same whatever groups", x.rooms(false), 200);
    Check.due("the fewest groups", x.rooms(true), 2);
    x.rates(40, 81, 122);
    Check.due("each alone is cheapest", x.rooms(true), 5);
    x.pair(0, 4, 9, 0);
    Check.due("two friends", x.rooms(false), 200 - 8);
    Check.due("four groups", x.rooms(true), 4);
    x.pair(0, 4, 9, 2);
    Check.due("who must not be in one", x.rooms(false), 200);
    x.pair(1, 2, 9, 1);
    x.pair(2, 3, 9, 0);
    x.pair(1, 3, -9, 0);
    Check.due("bonds of all pairs in a group", x.rooms(false), 200 - 8);
    x.pair(1, 3, 9, 0);
    Check.due("three friends", x.rooms(false), 80 + 122 - 27);
    x.pair(1, 3, 9, 2);
    Check.due("two of the three must not", x.rooms(false), 200 - 8);
    x.rates(0, 0, 0);
    x.pair(1, 3, 9, 0);
    Check.due("below 0", x.rooms(false), -27);
    Check.due("0 and 4 each in one", x.rooms(true), 3);
    Coachparty z = Firms.seated(6);
    z.pair(0, 4, 9, 0);
    z.pair(0, 5, 9, 0);
    z.pair(4, 5, 9, 0);
    z.pair(1, 2, 9, 0);
    z.pair(2, 3, 9, 0);
    Check.due("three friends, and three others", z.rooms(false), 240 - 27 - 18);
    Check.due("in two groups", z.rooms(true), 2);
    Coachparty y = Firms.seated(2);
    y.pair(0, 1, -9, 0);
    y.rates(40, 71, 0);
    Check.due("a quarrel is paid, too", x.rooms(true) * 100 + y.rooms(false), 380);
    Check.due("two groups are as dear as one, so one", y.rooms(true), 1);
  }

  private static void promise27Split() {
    Coachparty x = new Coachparty();
    Check.due("nobody, the set", x.split(1, true), 0);
    Check.due("nobody, the loss", x.split(12, false), 0);
    Check.thrown("no seats", x, Check.ARGUMENT, () -> x.split(0, true));
    Check.thrown("13", x, Check.ARGUMENT, () -> x.split(13, false));
    x.guest(0, 0, 4, 7);
    for (int guest = 1; guest < 5; guest++) {
      x.guest(0, 0, 4, 7);
      x.seat(guest, guest);
    }
    Check.due("four of one bond: the smallest set", x.split(4, true), 2);
    Check.due("loss", x.split(4, false), 0);
    Check.due("not more than the seats", x.split(2, true), 2 + 4);
    Check.due("too few seats", x.split(1, true), -1);
    Check.due("too few seats, loss", x.split(1, false), -999);
    x.pair(1, 4, 5, 0);
    x.pair(1, 2, -3, 0);
    Check.due("friends together", x.split(2, true), 2 + 16);
    Check.due("the foes are parted", x.split(2, false), -3);
    Check.due("with more seats", x.split(3, true), 2 + 16);
    x.pair(3, 4, 0, 1);
    Check.due("must together", x.split(3, true), 2 + 8 + 16);
    Check.due("and not with two seats", x.split(2, true), 2 + 4);
    Check.due("which parts friends", x.split(2, false), 5);
    x.pair(1, 2, -3, 1);
    x.pair(2, 3, 9, 2);
    Check.due("never in one", x.split(4, true), 2 + 4);
    x.pair(1, 3, 0, 1);
    Check.due("all hang together, and must not", x.split(4, true), -1);
    Check.due("no loss then", x.split(4, false), -999);
    x.pair(1, 3, 0, 0);
    x.pair(0, 1, 9, 2);
    x.pair(0, 2, 9, 1);
    Check.due("who waits is of no matter", x.split(4, true), 2 + 4);
    x.seat(0, 0);
    Check.due("a NEVER pair is aboard, 1 and 2 hang together with 0", x.split(4, true), -1);
    x.pair(0, 1, 9, 0);
    Check.due("the first set has the smallest guest aboard", x.split(4, true), 1 + 2 + 4);
    Coachparty y = Firms.seated(3);
    y.pair(0, 1, 1, 0);
    y.pair(0, 2, 1, 0);
    Check.due("the second one may be empty", y.split(3, true), 7);
    Check.due("nothing is lost", y.split(3, false), 0);
    y.pair(1, 2, 2, 0);
    Check.due("of several the smallest number", y.split(2, true), 1);
    Check.due("two", y.split(2, false), 2);
  }

  private static void promise28IsSound() {
    Coachparty x = new Coachparty();
    Check.due("a new one", x.isSound(), true);
    x.guest(9, 9, 0, 0);
    x.guest(9, 9, 0, 0);
    x.pair(0, 1, -9, 2);
    x.stop(300, 20, 0, 600);
    x.stop(300, 20, 0, 600);
    x.seat(0, 15);
    x.pay(1, false);
    x.drive();
    Check.due("with breaches, quarrels and stuck", x.isSound(), true);
    x.move(1, 15);
    x.begin(1439);
    Check.due("late and swapped", x.isSound(), true);
  }

  private static void promise29Digest() {
    Coachparty x = new Coachparty();
    long d = 4517;
    int[] tour = {0, 16, 0, 0, 0, 0, 0, 0, 0, 0, 0, 0, 480};
    for (int v : tour) {
      d = d * 31 + v;
    }
    for (int seat = 0; seat < 16; seat++) {
      d = d * 31 - 1;
    }
    int[] rest = {0, 0, 0, 0, 0, 1};
    for (int v : rest) {
      d = d * 31 + v;
    }
    Check.due("a new one", x.digest(), d);
    x.guest(2, 3, 0, 0);
    x.guest(0, 3, 4, 0);
    x.stop(10, 5, 2000, 100);
    x.pair(0, 1, -3, 2);
    x.seat(1, 1);
    x.drive();
    x.pay(1, true);
    String before = Check.snapshot(x);
    Check.due("all of its parts", x.digest(), byParts());
    Check.due("nothing is changed", Check.snapshot(x), before);
    x.drive();
    Check.due("a pair's quarrels", x.digest(), quarrelsAs(x, 0));
    Check.due("not as many", x.digest() == quarrelsAs(x, 1), false);
  }

  /** The digest of the firm of the test above, put together from its answers, with more quarrels of the pair. */
  private static long quarrelsAs(Coachparty x, int more) {
    long d = 4517;
    for (int what = 0; what <= 12; what++) {
      d = d * 31 + x.tour(what);
    }
    for (int guest = 0; guest < 2; guest++) {
      for (int what = 4; what <= 10; what++) {
        d = d * 31 + x.ofGuest(guest, what);
      }
    }
    for (int seat = 0; seat < 16; seat++) {
      d = d * 31 + x.ofSeat(seat, 0);
    }
    for (int what = 0; what <= 4; what++) {
      d = d * 31 + x.ofStop(0, what);
    }
    int[] rest = {1, 3 + more, x.asked(), x.rooms(true), x.rooms(false), x.split(4, true), x.split(4, false), 1};
    for (int v : rest) {
      d = d * 31 + v;
    }
    return d;
  }

  private static long byParts() {
    long d = 4517;
    // The tour; then two guests, who both sit in row 0 and have no quarrel yet.
    int[] parts = {1, 16, 2, 2, 0, 0, 3 + 1 + 3 + 100, 1, 0, 40, 1, 1, 495,
        1, 0, 1, 0, 0, 0, 0,
        1, 1, 0, 1, 40, 0, 0,
        0, 1, -1, -1, -1, -1, -1, -1, -1, -1, -1, -1, -1, -1, -1, -1,
        490, 0, 495, 0, 10,
        1, 0,
        1, 2, 120, 1, -3, 1};
    for (int v : parts) {
      d = d * 31 + v;
    }
    return d;
  }
}
