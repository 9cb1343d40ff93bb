/** Promises 9 to 17: the road and money. */
public final class RoadTests {
  public static void main(String[] args) {
    promise9Stop();
    promise10Begin();
    promise11Delay();
    promise12Late();
    promise13Drive();
    promise13LeftBehind();
    promise13Quarrels();
    promise13LastDay();
    promise14Rates();
    promise15Price();
    promise16Pay();
    promise17Cancel();
    Check.end();
  }

  private static void promise9Stop() {
    Coachparty x = new Coachparty();
    int[][] bad = {{-1, 0, 0, 0}, {601, 0, 0, 0}, {0, -1, 0, 0}, {0, 301, 0, 0}, {0, 0, -1, 0}, {0, 0, 2001, 0},
        {0, 0, 0, -1}, {0, 0, 0, 601}};
    for (int[] b : bad) {
      Check.thrown("a wrong stop", x, Check.ARGUMENT, () -> x.stop(b[0], b[1], b[2], b[3]));
    }
    Check.due("the first", x.stop(60, 300, 2000, 600), 0);
    Check.due("behind it", x.stop(600, 0, 0, 0), 1);
    Check.due("arrival", x.ofStop(0, 0), 540);
    Check.due("leaves", x.ofStop(0, 2), 840);
    Check.due("stuck", x.ofStop(1, 0), -1);
    for (int stop = 2; stop < 8; stop++) {
      Check.due("the next", x.stop(0, 0, 0, 0), stop);
    }
    Check.thrown("a ninth", x, Check.STATE, () -> x.stop(0, 0, 0, 0));
    Check.thrown("the argument goes first", x, Check.ARGUMENT, () -> x.stop(601, 0, 0, 0));
  }

  private static void promise10Begin() {
    Coachparty x = new Coachparty();
    x.stop(10, 0, 1000, 0);
    Check.due("at first", x.begin(1439), 480);
    Check.due("then", x.begin(0), 1439);
    Check.due("arrival", x.ofStop(0, 0), 10);
    Check.thrown("below 0", x, Check.ARGUMENT, () -> x.begin(-1));
    Check.thrown("1440", x, Check.ARGUMENT, () -> x.begin(1440));
    x.begin(991);
    Check.due("cut by the begin", x.ofStop(0, 1), 1);
    x.drive();
    Check.due("begin stays for the next day", x.begin(5), 991);
  }

  private static void promise11Delay() {
    Coachparty x = new Coachparty();
    Check.thrown("without stops", x, Check.INDEX, () -> x.delay(0, 0));
    x.stop(100, 0, 2000, 0);
    x.stop(100, 0, 2000, 0);
    Check.due("at first", x.delay(1, 300), 0);
    Check.due("before", x.delay(1, 70), 300);
    Check.due("delays are driven", x.ofStop(1, 4), 270);
    Check.due("arrival", x.ofStop(1, 0), 750);
    Check.due("the other way has none", x.ofStop(0, 0), 580);
    Check.thrown("no such stop", x, Check.INDEX, () -> x.delay(2, 0));
    Check.thrown("stop -1", x, Check.INDEX, () -> x.delay(-1, 301));
    Check.thrown("below 0", x, Check.ARGUMENT, () -> x.delay(0, -1));
    Check.thrown("301", x, Check.ARGUMENT, () -> x.delay(0, 301));
    x.drive();
    Check.due("none on the next day", x.ofStop(1, 0), 680);
    Check.due("none before", x.delay(1, 1), 0);
  }

  private static void promise12Late() {
    Coachparty x = new Coachparty();
    Check.thrown("without guests", x, Check.INDEX, () -> x.late(0, 0));
    x.guest(0, 0, 4, 1);
    Check.due("at first", x.late(0, 60), 0);
    Check.due("before", x.late(0, 7), 60);
    Check.thrown("no such guest", x, Check.INDEX, () -> x.late(1, 61));
    Check.thrown("guest -1", x, Check.INDEX, () -> x.late(-1, 0));
    Check.thrown("below 0", x, Check.ARGUMENT, () -> x.late(0, -1));
    Check.thrown("61", x, Check.ARGUMENT, () -> x.late(0, 61));
    x.stop(0, 0, 2000, 0);
    x.drive();
    Check.due("lateness was for that day", x.late(0, 3), 0);
    x.cancel(0);
    Check.due("who is gone may be late", x.late(0, 0), 3);
  }

  private static void promise13Drive() {
    Coachparty x = new Coachparty();
    Check.thrown("no stop", x, Check.STATE, x::drive);
    x.stop(30, 10, 2000, 0);
    x.stop(30, 10, 2000, 0);
    x.guest(0, 0, 4, 1);
    x.guest(0, 0, 4, 0);
    x.guest(0, 0, 4, 0);
    x.guest(0, 0, 4, 5);
    x.out(0, true);
    Check.due("who came", x.drive(), 3);
    Check.due("stop by stop, guest by guest", x.row(0), "x 1|2 0");
    Check.due("its village is not on the way", x.ofGuest(3, 4), 0);
    Check.due("a day more", x.tour(0), 1);
    Check.due("a turn at the window", x.ofGuest(0, 6), 1);
    Check.due("none without", x.ofGuest(1, 6), 0);
    Check.due("nobody came", x.drive(), 0);
    Check.due("turns", x.ofGuest(0, 6), 2);
    x.guest(0, 0, 4, 1);
    x.delay(0, 300);
    x.delay(1, 181);
    Check.due("stuck on the way to it", x.drive(), 0);
    Check.due("who was not reached waits", x.ofGuest(4, 4), 0);
    Check.due("a turn also as it was stuck", x.ofGuest(0, 6), 3);
    Check.due("the day is over", x.tour(0), 3);
    Check.due("then it is reached", x.drive(), 1);
  }

  private static void promise13LeftBehind() {
    Coachparty x = new Coachparty();
    x.coach(2, 1);
    for (int seat = 2; seat < 8; seat++) {
      x.out(seat, true);
    }
    x.stop(0, 20, 480, 0);
    for (int guest = 0; guest < 6; guest++) {
      x.guest(0, 0, 4, 0);
    }
    x.late(0, 20);
    x.late(1, 21);
    x.late(5, 60);
    Check.due("20 minutes are not too late, 21 are", x.drive(), 2);
    int[] states = {1, 2, 1, 2, 2, 2};
    int[] wanted = {0, 0, 0, 1, 1, 0};
    for (int guest = 0; guest < 6; guest++) {
      Check.due("state of " + guest, x.ofGuest(guest, 4), states[guest]);
      Check.due("for want of a seat " + guest, x.ofGuest(guest, 10), wanted[guest]);
    }
    x.out(2, false);
    Check.due("who is left behind stays so", x.drive(), 0);
    x.begin(481);
    x.guest(0, 0, 4, 0);
    x.late(6, 1);
    Check.due("cut, so there is no stay", x.ofStop(0, 1), 1);
    Check.due("a minute is too late", x.drive(), 0);
    Check.due("left behind", x.ofGuest(6, 4), 2);
    x.guest(0, 0, 4, 0);
    Check.due("who is there comes, also if it is cut", x.drive(), 1);
  }

  private static void promise13Quarrels() {
    Coachparty x = new Coachparty();
    x.stop(10, 0, 2000, 133);
    x.stop(10, 0, 2000, 99);
    x.stop(600, 0, 2000, 600);
    for (int guest = 0; guest < 4; guest++) {
      x.guest(0, 0, 4, 0);
    }
    x.pair(0, 1, -9, 0);
    x.pair(1, 2, -1, 0);
    x.pair(0, 2, -9, 0);
    x.pair(2, 3, 9, 0);
    Check.due("they come behind the first way", x.drive(), 4);
    Check.due("9 * 99 / 100", x.ofPair(0, 1, 3), 8);
    Check.due("from the other side", x.ofPair(1, 0, 3), 8);
    Check.due("1 * 99 / 100", x.ofPair(1, 2, 3), 0);
    Check.due("not beside", x.ofPair(0, 2, 3), 0);
    Check.due("friends", x.ofPair(2, 3, 3), 0);
    x.drive();
    Check.due("11 and 8 more, each rounded", x.ofPair(0, 1, 3), 27);
    Check.due("1 more", x.ofPair(1, 2, 3), 1);
    Check.due("of 1 with both", x.ofGuest(1, 9), 28);
    Check.due("of all pairs", x.tour(8), 28);
    x.pair(0, 1, 9, 0);
    x.drive();
    Check.due("old quarrels stay", x.ofPair(0, 1, 3), 27);
  }

  private static void promise13LastDay() {
    Coachparty x = new Coachparty();
    x.guest(0, 9, 4, 0);
    x.seat(0, 0);
    x.stop(600, 0, 0, 0);
    for (int day = 0; day < 60; day++) {
      x.drive();
    }
    Check.due("the last day", x.tour(0), 60);
    Check.due("turns of all days", x.ofGuest(0, 6), 60);
    Check.thrown("no day more", x, Check.STATE, x::drive);
  }

  private static void promise14Rates() {
    Coachparty x = new Coachparty();
    x.guest(0, 0, 4, 0);
    x.seat(0, 0);
    Check.due("single at first", x.rooms(false), 60);
    Check.due("double at first", x.rates(300, 300, 300), 90);
    Check.due("double before", x.rates(0, 17, 1), 300);
    Check.due("single", x.rooms(false), 0);
    x.rates(44, 8, 9);
    Check.due("single told", x.rooms(false), 44);
    Check.thrown("single below 0", x, Check.ARGUMENT, () -> x.rates(-1, 0, 0));
    Check.thrown("single 301", x, Check.ARGUMENT, () -> x.rates(301, 0, 0));
    Check.thrown("double below 0", x, Check.ARGUMENT, () -> x.rates(0, -1, 0));
    Check.thrown("double 301", x, Check.ARGUMENT, () -> x.rates(0, 301, 0));
    Check.thrown("triple below 0", x, Check.ARGUMENT, () -> x.rates(0, 0, -1));
    Check.thrown("triple 301", x, Check.ARGUMENT, () -> x.rates(0, 0, 301));
    Check.due("unchanged", x.rates(1, 1, 1), 8);
  }

  private static void promise15Price() {
    Coachparty x = new Coachparty();
    Check.due("at first", x.price(999), 200);
    Check.due("before", x.price(0), 999);
    Check.thrown("below 0", x, Check.ARGUMENT, () -> x.price(-1));
    Check.thrown("1000", x, Check.ARGUMENT, () -> x.price(1000));
    Check.due("unchanged", x.price(3), 0);
  }

  private static void promise16Pay() {
    Coachparty x = new Coachparty();
    Check.thrown("without guests", x, Check.INDEX, () -> x.pay(0, true));
    x.guest(0, 0, 4, 0);
    x.guest(0, 0, 4, 0);
    x.price(199);
    Check.due("a deposit, rounded down", x.pay(0, true), 39);
    Check.due("it is paid", x.pay(0, true), 0);
    Check.due("the rest", x.pay(0, false), 160);
    Check.due("nothing more", x.pay(0, false), 0);
    Check.due("paid", x.ofGuest(0, 8), 199);
    x.price(10);
    Check.due("more than the price was paid", x.pay(0, false), 0);
    Check.due("nothing back", x.ofGuest(0, 8), 199);
    x.price(999);
    Check.due("what a higher price asks", x.pay(0, true), 0);
    Check.due("in all", x.pay(0, false), 800);
    Check.due("takings", x.tour(9), 999);
    Check.thrown("guest -1", x, Check.INDEX, () -> x.pay(-1, false));
    Check.thrown("guest 2", x, Check.INDEX, () -> x.pay(2, false));
    x.seat(0, 0);
    Check.due("aboard", x.pay(0, false), 0);
    x.cancel(1);
    Check.thrown("gone", x, Check.STATE, () -> x.pay(1, true));
  }

  private static void promise17Cancel() {
    Coachparty x = new Coachparty();
    Check.thrown("without guests", x, Check.INDEX, () -> x.cancel(0));
    x.coach(2, 1);
    for (int seat = 1; seat < 8; seat++) {
      x.out(seat, true);
    }
    for (int guest = 0; guest < 7; guest++) {
      x.guest(0, 0, 4, guest < 5 ? 0 : 7);
    }
    x.price(95);
    x.pay(6, false);
    Check.due("all of it on the day 0", x.cancel(6), 95);
    Check.due("gone", x.ofGuest(6, 4), 3);
    Check.due("nothing is left of it", x.ofGuest(6, 8), 0);
    Check.due("takings", x.tour(9), 0);
    Check.thrown("gone already", x, Check.STATE, () -> x.cancel(6));
    x.pay(1, false);
    x.pay(2, false);
    x.pay(3, true);
    x.pay(5, false);
    x.late(1, 1);
    x.stop(0, 0, 2000, 0);
    x.drive();
    Check.thrown("aboard", x, Check.STATE, () -> x.cancel(0));
    Check.due("too late: nothing", x.cancel(1), 0);
    Check.due("it keeps what was paid", x.ofGuest(1, 8), 95);
    Check.due("for want of a seat: 20", x.cancel(2), 20);
    Check.due("the want is still told", x.ofGuest(2, 10), 1);
    Check.due("all, as it is less than 20", x.cancel(3), 19);
    Check.due("nothing was paid", x.cancel(4), 0);
    Check.due("half, rounded down", x.cancel(5), 47);
    Check.due("takings", x.tour(9), 95 + 75 + 0 + 48);
    Check.due("all but one are gone", x.tour(5), 6);
    Check.due("nobody is left behind now", x.tour(4), 0);
    Check.thrown("no such guest", x, Check.INDEX, () -> x.cancel(7));
    Check.thrown("guest -1", x, Check.INDEX, () -> x.cancel(-1));
  }
}
