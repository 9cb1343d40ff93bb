/** The sentences of "3. Rooms, splits, money", one by one; each test has its sentence ahead of it. */
public final class NightEdgeTests {
  public static void main(String[] args) {
    ratesAtFirst();
    groupsOfThreeAtMost();
    neverInOneRoom();
    mustAreFree();
    bondsOfAllPairs();
    roomsBelow0();
    fewestGroups();
    roomsOfThoseAboard();
    eachRate();
    splitSeats();
    splitEmptySecond();
    splitMust();
    splitNever();
    splitNone();
    splitLeastLoss();
    splitLossIsOfTheParted();
    splitSmallestSet();
    splitFirstSet();
    splitOfThoseAboard();
    deposits();
    restOfThePrice();
    priceFromNowOn();
    whoMayPay();
    refundOnTheFirstDay();
    refundOfHalf();
    refundOfTheLate();
    refundForWantOfASeat();
    refundOnce();
    takings();
    Check.end();
  }

  private static void roomsAre(String name, Coachparty x, int cost, int groups) {
    Check.due(name + ": cost", x.rooms(false), cost);
    Check.due(name + ": groups", x.rooms(true), groups);
  }

  private static void splitIs(String name, Coachparty x, int seats, int set, int loss) {
    Check.due(name + ": set", x.split(seats, true), set);
    Check.due(name + ": loss", x.split(seats, false), loss);
  }

  /** "SINGLE (60 at first), one of two DOUBLE (90 at first), one of three TRIPLE (120 at first)". */
  private static void ratesAtFirst() {
    int[][] due = {{0, 0}, {60, 1}, {90, 1}, {120, 1}, {180, 2}, {210, 2}, {240, 2}, {300, 3}, {330, 3}, {360, 3},
        {420, 4}};
    for (int guests = 0; guests <= 10; guests++) {
      roomsAre("guests " + guests, Firms.seated(guests), due[guests][0], due[guests][1]);
    }
    Check.due("DOUBLE before", new Coachparty().rates(1, 2, 3), 90);
  }

  /** "GUESTS ABOARD are parted in groups of one, two or three". */
  private static void groupsOfThreeAtMost() {
    Coachparty x = Firms.seated(4);
    x.rates(300, 300, 0);
    roomsAre("four do not go in one", x, 300, 2);
    Coachparty y = Firms.seated(6);
    y.rates(300, 300, 0);
    roomsAre("six in two", y, 0, 2);
    Coachparty z = Firms.seated(4);
    for (int one = 0; one < 4; one++) {
      for (int other = one + 1; other < 4; other++) {
        z.pair(one, other, 9, 1);
      }
    }
    roomsAre("four friends", z, 120 - 27 + 60, 2);
  }

  /** "No NEVER pair in one". */
  private static void neverInOneRoom() {
    Coachparty x = Firms.seated(2);
    x.pair(0, 1, 9, 2);
    roomsAre("a NEVER pair", x, 120, 2);
    Coachparty y = Firms.seated(3);
    y.pair(1, 2, 9, 2);
    roomsAre("second and third", y, 150, 2);
    y.pair(1, 2, 9, 0);
    y.pair(0, 2, 9, 2);
    roomsAre("first and third", y, 90 - 9 + 60, 2);
    y.pair(0, 2, 0, 0);
    y.pair(0, 1, 9, 2);
    roomsAre("first and second", y, 90 - 9 + 60, 2);
    y.pair(0, 2, 0, 2);
    y.pair(1, 2, 0, 2);
    roomsAre("three, each alone", y, 180, 3);
    Coachparty z = Firms.seated(10);
    for (int one = 0; one < 10; one++) {
      for (int other = one + 1; other < 10; other++) {
        z.pair(one, other, 9, 2);
      }
    }
    roomsAre("ten, each alone", z, 600, 10);
  }

  /** Nothing is said of a MUST pair in rooms: they may be parted. */
  private static void mustAreFree() {
    Coachparty x = Firms.seated(2);
    x.pair(0, 1, 0, 1);
    x.rates(10, 21, 300);
    roomsAre("MUST, but cheaper alone", x, 20, 2);
  }

  /** "Less the BONDS of all pairs in one group". */
  private static void bondsOfAllPairs() {
    Coachparty x = Firms.seated(3);
    x.pair(0, 1, 1, 0);
    x.pair(0, 2, 2, 0);
    x.pair(1, 2, 4, 0);
    roomsAre("three bonds", x, 120 - 7, 1);
    x.pair(1, 2, -9, 0);
    roomsAre("a bond below 0", x, 120 - 3 + 9, 1);
    x.rates(60, 60, 120);
    roomsAre("better without it", x, 120 - 2, 2);
    Coachparty y = Firms.seated(2);
    y.pair(0, 1, -9, 0);
    roomsAre("a double with a quarrel", y, 99, 1);
  }

  /** "That can be below 0". */
  private static void roomsBelow0() {
    Coachparty x = Firms.seated(3);
    x.rates(0, 0, 0);
    x.pair(0, 1, 9, 0);
    roomsAre("two friends, and one with them", x, -9, 1);
    x.pair(0, 2, -9, 0);
    roomsAre("the one alone", x, -9, 2);
    x.pair(0, 2, 9, 0);
    x.pair(1, 2, 9, 0);
    roomsAre("three friends", x, -27, 1);
  }

  /** "Of several such partings those with the fewest groups." */
  private static void fewestGroups() {
    Coachparty x = Firms.seated(2);
    x.rates(45, 90, 120);
    roomsAre("as dear as two", x, 90, 1);
    x.rates(44, 90, 120);
    roomsAre("dearer than two", x, 88, 2);
    Coachparty y = Firms.seated(3);
    y.rates(40, 80, 120);
    roomsAre("as dear as three", y, 120, 1);
    y.rates(40, 80, 121);
    roomsAre("dearer than three: a double", y, 120, 2);
    y.rates(40, 81, 121);
    roomsAre("all dearer than three", y, 120, 3);
    Coachparty z = Firms.seated(10);
    z.rates(0, 0, 0);
    roomsAre("all for nothing", z, 0, 4);
    Coachparty w = Firms.seated(4);
    w.rates(300, 10, 20);
    roomsAre("two doubles", w, 20, 2);
  }

  /** "ROOMS for a night: GUESTS ABOARD". */
  private static void roomsOfThoseAboard() {
    Coachparty x = Firms.waiting(4, 7);
    x.pair(0, 1, 9, 0);
    x.pair(1, 3, 9, 0);
    x.seat(1, 5);
    x.seat(3, 6);
    x.cancel(0);
    roomsAre("two of four", x, 90 - 9, 1);
  }

  /** "Tells what ROOMS cost": each rate is its own; "Returns DOUBLE before". */
  private static void eachRate() {
    Coachparty x = Firms.seated(1);
    Check.due("before", x.rates(11, 222, 299), 90);
    roomsAre("single", x, 11, 1);
    Coachparty y = Firms.seated(2);
    y.rates(300, 22, 300);
    roomsAre("double", y, 22, 1);
    Coachparty z = Firms.seated(3);
    z.rates(300, 300, 33);
    roomsAre("triple", z, 33, 1);
    Check.due("before, told", z.rates(0, 0, 0), 300);
  }

  /** "Two small coaches of so many SEATS each". */
  private static void splitSeats() {
    splitIs("one and one", Firms.seated(2), 1, 1, 0);
    splitIs("two do not go in none", Firms.seated(3), 1, -1, -999);
    for (int seats = 1; seats <= 5; seats++) {
      splitIs("twice " + seats, Firms.seated(2 * seats), seats, (1 << seats) - 1, 0);
      if (seats < 5) {
        splitIs("one more than twice " + seats, Firms.seated(2 * seats + 1), seats, -1, -999);
      }
    }
    splitIs("nine, in four and five", Firms.seated(9), 5, 15, 0);
  }

  /** "The second one may be empty". */
  private static void splitEmptySecond() {
    Coachparty x = Firms.seated(3);
    x.pair(0, 1, 1, 1);
    x.pair(1, 2, 1, 1);
    splitIs("all in one", x, 3, 7, 0);
    splitIs("not in two seats", x, 2, -1, -999);
    splitIs("one alone", Firms.seated(1), 1, 1, 0);
  }

  /** "MUST pairs together": the pairs of pairs, too. */
  private static void splitMust() {
    Coachparty x = Firms.seated(4);
    x.pair(0, 3, -9, 1);
    splitIs("together, though their loss would be less", x, 2, 1 + 8, 0);
    splitIs("in more seats", x, 3, 1 + 8, 0);
    x.pair(1, 3, 0, 1);
    splitIs("three together", x, 3, 1 + 2 + 8, 0);
    splitIs("three do not go in two", x, 2, -1, -999);
  }

  /** "NEVER pairs not". */
  private static void splitNever() {
    Coachparty x = Firms.seated(4);
    x.pair(0, 1, 9, 2);
    splitIs("apart, though they lose by it", x, 4, 1, 9);
    x.pair(2, 3, 9, 2);
    splitIs("both pairs", x, 4, 1 + 4, 18);
    splitIs("both pairs, in two seats", x, 2, 1 + 4, 18);
    x.pair(0, 2, 0, 2);
    splitIs("0 with 3", x, 2, 1 + 8, 18);
    x.pair(0, 3, 0, 2);
    splitIs("three who must not, two of them in one", x, 4, -1, -999);
    Coachparty y = Firms.seated(3);
    y.pair(1, 2, 0, 2);
    splitIs("of the second and third", y, 2, 1 + 2, 0);
  }

  /** "NONE without a SPLIT (for LOSS -999 then)". */
  private static void splitNone() {
    Coachparty x = Firms.seated(3);
    x.pair(0, 1, 0, 1);
    x.pair(1, 2, 0, 1);
    x.pair(0, 2, 0, 2);
    for (int seats = 1; seats <= 12; seats++) {
      splitIs("laws against one another", x, seats, -1, -999);
    }
    Coachparty y = Firms.seated(10);
    for (int seats = 1; seats <= 4; seats++) {
      splitIs("too few seats", y, seats, -1, -999);
    }
  }

  /** "The BEST SPLIT has the least LOSS": below 0, too, and not the smallest set. */
  private static void splitLeastLoss() {
    Coachparty x = Firms.seated(4);
    x.pair(0, 1, 3, 0);
    x.pair(0, 2, 2, 0);
    x.pair(0, 3, 1, 0);
    splitIs("the least loss of two and two", x, 2, 1 + 2, 3);
    splitIs("none is lost with all in one", x, 4, 15, 0);
    x.pair(1, 2, -5, 0);
    splitIs("below 0", x, 4, 1 + 2 + 8, 2 - 5);
    Coachparty y = Firms.seated(10);
    for (int one = 0; one < 10; one++) {
      for (int other = one + 1; other < 10; other++) {
        y.pair(one, other, -9, 0);
      }
    }
    splitIs("as many pairs parted as can be", y, 12, 31, -225);
    splitIs("nine and one seats are not enough for it", y, 5, 31, -225);
  }

  /** "LOSS is the sum of BONDS of all pairs who are parted": each once. */
  private static void splitLossIsOfTheParted() {
    Coachparty x = Firms.seated(4);
    x.pair(0, 1, 9, 1);
    x.pair(2, 3, 9, 1);
    x.pair(0, 2, 1, 2);
    x.pair(0, 3, 2, 0);
    x.pair(1, 2, 4, 0);
    x.pair(1, 3, -8, 0);
    splitIs("four pairs are parted", x, 2, 1 + 2, 1 + 2 + 4 - 8);
  }

  /** "Of several that whose first set .. is the smallest as a number." */
  private static void splitSmallestSet() {
    splitIs("one alone", Firms.seated(10), 12, 1, 0);
    splitIs("three are the smallest of three and three", Firms.seated(6), 3, 7, 0);
    Coachparty x = Firms.seated(4);
    x.pair(0, 1, 0, 2);
    splitIs("1 is not in it", x, 2, 1 + 4, 0);
    splitIs("nobody has to be in it", x, 3, 1, 0);
  }

  /** "Whose first set (with the smallest GUEST ABOARD)": also if that is not 0. */
  private static void splitFirstSet() {
    Coachparty x = Firms.waiting(10, 7);
    x.seat(9, 0);
    splitIs("9 alone", x, 1, 512, 0);
    x.seat(8, 1);
    splitIs("8 and 9", x, 1, 256, 0);
    x.pair(8, 9, 1, 0);
    splitIs("8 and 9, friends", x, 2, 768, 0);
    x.seat(3, 2);
    splitIs("3 alone", x, 2, 8, 0);
  }

  /** "GUESTS ABOARD are parted": the others and their laws are of no matter. */
  private static void splitOfThoseAboard() {
    Coachparty x = Firms.waiting(4, 7);
    x.seat(1, 0);
    x.seat(2, 1);
    x.pair(0, 1, 9, 1);
    x.pair(0, 2, 9, 2);
    x.pair(1, 3, -9, 0);
    splitIs("two of four", x, 1, 2, 0);
    x.cancel(0);
    splitIs("one of the others is gone", x, 2, 2, 0);
  }

  /** pay: "of PRICE / 5, if it is a DEPOSIT"; "what is divided is rounded down"; "0, if it paid that much, or more". */
  private static void deposits() {
    int[][] due = {{0, 0}, {4, 0}, {5, 1}, {9, 1}, {10, 2}, {200, 40}, {994, 198}, {995, 199}, {999, 199}};
    for (int[] d : due) {
      Coachparty x = Firms.waiting(1, 7);
      x.price(d[0]);
      Check.due("deposit of " + d[0], x.pay(0, true), d[1]);
      Check.due("it paid that much", x.pay(0, true), 0);
      Check.due("paid", x.ofGuest(0, 8), d[1]);
    }
    Coachparty x = Firms.waiting(1, 7);
    x.pay(0, false);
    Check.due("it paid more", x.pay(0, true), 0);
    Check.due("nothing is given back by it", x.ofGuest(0, 8), 200);
  }

  /** "What it did not pay yet of PRICE". */
  private static void restOfThePrice() {
    Coachparty x = Firms.waiting(2, 7);
    Check.due("at first 200", x.pay(0, false), 200);
    Check.due("no more", x.pay(0, false), 0);
    x.pay(1, true);
    Check.due("behind a deposit", x.pay(1, false), 160);
    Check.due("paid", x.ofGuest(1, 8), 200);
    x.price(201);
    Check.due("one more", x.pay(1, false), 1);
  }

  /** price: "(of those who pay from now on)": it changes nothing of what was paid. */
  private static void priceFromNowOn() {
    Coachparty x = Firms.waiting(2, 7);
    x.pay(0, false);
    x.price(0);
    Check.due("paid", x.ofGuest(0, 8), 200);
    Check.due("it paid more", x.pay(0, false), 0);
    Check.due("for nothing", x.pay(1, false), 0);
    Check.due("a deposit of nothing", x.pay(1, true), 0);
    x.price(999);
    Check.due("the most", x.pay(1, false), 999);
    Check.due("the rest of the most", x.pay(0, false), 799);
    Check.due("price before", x.price(1), 999);
  }

  /** "Throws IllegalStateException if it is GONE": who waits, is aboard, or was left behind, may pay. */
  private static void whoMayPay() {
    Coachparty x = Firms.waiting(4, 0);
    x.stop(0, 0, 2000, 0);
    x.late(1, 1);
    x.cancel(3);
    x.drive();
    x.guest(0, 0, 4, 7);
    Check.due("aboard", x.pay(0, true), 40);
    Check.due("left behind", x.pay(1, true), 40);
    Check.due("waiting", x.pay(4, true), 40);
    Check.thrown("gone", x, Check.STATE, () -> x.pay(3, true));
    x.price(0);
    Check.thrown("gone, though nothing is to be paid", x, Check.STATE, () -> x.pay(3, false));
  }

  /** "On the DAY 0 it is given back what it PAID". */
  private static void refundOnTheFirstDay() {
    Coachparty x = Firms.waiting(3, 7);
    x.price(999);
    x.pay(0, false);
    x.pay(1, true);
    Check.due("all", x.cancel(0), 999);
    Check.due("a deposit", x.cancel(1), 199);
    Check.due("nothing", x.cancel(2), 0);
    Check.due("nothing is left", x.ofGuest(0, 8) + x.ofGuest(1, 8) + x.ofGuest(2, 8), 0);
    Check.due("takings", x.tour(9), 0);
  }

  /** "Later, WAITING, half of it", rounded down. */
  private static void refundOfHalf() {
    int[] prices = {0, 1, 2, 3, 999};
    int[] back = {0, 0, 1, 1, 499};
    for (int k = 0; k < prices.length; k++) {
      Coachparty x = Firms.waiting(1, 7);
      x.price(prices[k]);
      x.pay(0, false);
      x.stop(0, 0, 2000, 0);
      x.drive();
      Check.due("half of " + prices[k], x.cancel(0), back[k]);
      Check.due("the other half is kept", x.ofGuest(0, 8), prices[k] - back[k]);
      Check.due("in the takings, too", x.tour(9), prices[k] - back[k]);
    }
  }

  /** "LEFT behind, nothing". */
  private static void refundOfTheLate() {
    Coachparty x = Firms.waiting(1, 0);
    x.pay(0, false);
    x.stop(0, 0, 2000, 0);
    x.late(0, 1);
    x.drive();
    Check.due("nothing", x.cancel(0), 0);
    Check.due("gone", x.ofGuest(0, 4), 3);
    Check.due("all is kept", x.ofGuest(0, 8), 200);
    Check.due("it wanted no seat", x.ofGuest(0, 10), 0);
  }

  /** "But 20 of what it PAID (all of it, if that is less), if it was LEFT behind for want of a SEAT". */
  private static void refundForWantOfASeat() {
    int[][] due = {{0, 0}, {1, 1}, {19, 19}, {20, 20}, {21, 20}, {999, 20}};
    for (int[] d : due) {
      Coachparty x = Firms.allOut();
      x.guest(0, 0, 4, 0);
      x.price(d[0]);
      x.pay(0, false);
      x.stop(0, 0, 2000, 0);
      x.drive();
      Check.due("of " + d[0], x.cancel(0), d[1]);
      Check.due("the rest is kept", x.ofGuest(0, 8), d[0] - d[1]);
      Check.due("gone now, for want of a seat", x.ofGuest(0, 10), 1);
    }
    Coachparty x = Firms.allOut();
    x.guest(0, 0, 4, 0);
    x.stop(0, 0, 2000, 0);
    x.drive();
    x.pay(0, true);
    Check.due("also if it paid behind that", x.cancel(0), 20);
  }

  /** "(GONE then)": nothing is given back twice. */
  private static void refundOnce() {
    Coachparty x = Firms.waiting(2, 7);
    x.pay(0, false);
    x.cancel(0);
    Check.thrown("gone", x, Check.STATE, () -> x.cancel(0));
    x.seat(1, 0);
    Check.thrown("aboard", x, Check.STATE, () -> x.cancel(1));
    Check.due("one is gone", x.tour(5), 1);
    Check.due("it is still counted", x.tour(2), 2);
  }

  /** tour: "what was paid in ever, less what was given back". */
  private static void takings() {
    Coachparty x = Firms.waiting(3, 7);
    x.pay(0, false);
    x.pay(1, true);
    Check.due("paid in", x.tour(9), 240);
    x.cancel(1);
    Check.due("given back", x.tour(9), 200);
    x.stop(0, 0, 2000, 0);
    x.drive();
    x.pay(2, true);
    x.cancel(2);
    Check.due("half given back", x.tour(9), 220);
    x.price(999);
    x.pay(0, false);
    Check.due("the rest of a higher price", x.tour(9), 1019);
  }
}
