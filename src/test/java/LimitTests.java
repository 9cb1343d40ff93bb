import java.util.function.Function;
import java.util.function.Supplier;

/**
 * For each number that a call is told: the least and the greatest are taken, and the first one beyond on each side, and
 * the ones farthest away, are refused with the exception of the promise and change nothing.
 */
public final class LimitTests {
  /** A call that is told one number. */
  private interface Telling {
    Object tell(Coachparty x, int value);
  }

  public static void main(String[] args) {
    promise2Coach();
    promise3Out();
    promise4Guest();
    promise5Pair();
    promise6Move();
    promise8Seat();
    promise9Stop();
    promise9Latest();
    promise10Begin();
    promise11Delay();
    promise12Late();
    promise14Rates();
    promise15Price();
    promises16And17Money();
    promises18To22Asked();
    promise23Row();
    promise24Would();
    promise27Split();
    Check.end();
  }

  private static void beyond(String what, Class<? extends RuntimeException> want, int least, int most,
      Supplier<Coachparty> make, Telling call) {
    int[] values = {least - 1, most + 1, Integer.MIN_VALUE, Integer.MAX_VALUE};
    for (int value : values) {
      Check.refused(what + " " + value, want, make, x -> call.tell(x, value));
    }
  }

  /** The limits of a number that can be asked for behind the call. */
  private static void argument(String what, int least, int most, Supplier<Coachparty> make, Telling call,
      Function<Coachparty, Object> ask) {
    for (int value : new int[] {least, most}) {
      Coachparty x = make.get();
      Object answer = Check.answer(() -> call.tell(x, value));
      Check.due(what + " " + value + " is taken", answer instanceof Class, false);
      Check.due(what + " " + value + " is kept", ask.apply(x), value);
    }
    beyond(what, Check.ARGUMENT, least, most, make, call);
  }

  /** The limits of a number by which something is asked; of the first and the last the answer is told. */
  private static void what(String what, int first, int last, int most, Supplier<Coachparty> make, Telling call) {
    Check.asked(what + " 0", make, x -> call.tell(x, 0), first);
    Check.asked(what + " " + most, make, x -> call.tell(x, most), last);
    beyond(what, Check.ARGUMENT, 0, most, make, call);
  }

  /** Guests, seats, stops or rows, so many of them: the first and the last are there, no other is. */
  private static void index(String what, int count, Supplier<Coachparty> make, Telling call) {
    for (int value : new int[] {0, count - 1}) {
      Coachparty x = make.get();
      Check.due(what + " " + value + " is there", Check.answer(() -> call.tell(x, value)) instanceof Class, false);
    }
    beyond(what, Check.INDEX, 0, count - 1, make, call);
  }

  private static void promise2Coach() {
    argument("coach rows", 2, 5, Coachparty::new, (x, v) -> x.coach(v, 1), x -> x.tour(1) / 4);
    Check.due("two rows are eight seats", new Coachparty().coach(2, 1), 8);
    Check.due("five rows are twenty seats", new Coachparty().coach(5, 1), 20);
    Supplier<Coachparty> last = () -> {
      Coachparty x = new Coachparty();
      x.coach(5, 1);
      x.guest(1, 0, 4, 0);
      x.seat(0, 16);
      return x;
    };
    argument("axle", 0, 4, last, (x, v) -> x.coach(5, v), x -> 4 - x.tour(6));
    beyond("axle of two rows", Check.ARGUMENT, 0, 4, Coachparty::new, (x, v) -> x.coach(2, v));
    Check.due("the axle may be behind two rows", new Coachparty().coach(2, 4), 8);
  }

  private static void promise3Out() {
    for (int rows = 2; rows <= 5; rows++) {
      int told = rows;
      Supplier<Coachparty> make = () -> {
        Coachparty x = new Coachparty();
        x.coach(told, 1);
        return x;
      };
      index("out of " + rows + " rows, seat", rows * 4, make, (x, v) -> x.out(v, true));
      index("not out of " + rows + " rows, seat", rows * 4, make, (x, v) -> x.out(v, false));
      index("ofSeat of " + rows + " rows, seat", rows * 4, make, (x, v) -> x.ofSeat(v, 0));
    }
  }

  private static void promise4Guest() {
    argument("sick", 0, 9, Coachparty::new, (x, v) -> x.guest(v, 1, 1, 1), x -> x.ofGuest(0, 0));
    argument("wish", 0, 9, Coachparty::new, (x, v) -> x.guest(1, v, 1, 1), x -> x.ofGuest(0, 1));
    argument("row at the most", 0, 4, Coachparty::new, (x, v) -> x.guest(1, 1, v, 1), x -> x.ofGuest(0, 2));
    argument("village", 0, 7, Coachparty::new, (x, v) -> x.guest(1, 1, 1, v), x -> x.ofGuest(0, 3));
  }

  private static void promise5Pair() {
    Supplier<Coachparty> two = () -> Firms.waiting(2, 7);
    argument("bond", -9, 9, two, (x, v) -> x.pair(0, 1, v, 0), x -> x.ofPair(0, 1, 0));
    argument("law", 0, 2, two, (x, v) -> x.pair(1, 0, 0, v), x -> x.ofPair(0, 1, 1));
    beyond("one", Check.INDEX, 0, 1, two, (x, v) -> x.pair(v, 1, 0, 0));
    beyond("other", Check.INDEX, 0, 1, two, (x, v) -> x.pair(0, v, 0, 0));
    beyond("one of ten", Check.INDEX, 0, 9, Firms::many, (x, v) -> x.pair(v, 3, 1, 1));
    beyond("other of ten", Check.INDEX, 0, 9, Firms::many, (x, v) -> x.pair(3, v, 1, 1));
    Check.due("the last pair of ten", Firms.many().pair(8, 9, 1, 1), 0);
  }

  private static void promise6Move() {
    index("move guest of eight", 8, Firms::full, (x, v) -> x.move(v, 4));
    index("move seat of eight", 8, Firms::full, (x, v) -> x.move(3, v));
    index("move seat of sixteen", 16, () -> Firms.seated(1), (x, v) -> x.move(0, v));
  }

  private static void promise8Seat() {
    index("seat guest of ten", 10, () -> Firms.waiting(10, 7), (x, v) -> x.seat(v, 4));
    index("seat seat of sixteen", 16, () -> Firms.waiting(1, 7), (x, v) -> x.seat(0, v));
    Supplier<Coachparty> long5 = () -> {
      Coachparty x = Firms.waiting(1, 7);
      x.coach(5, 1);
      return x;
    };
    index("seat seat of twenty", 20, long5, (x, v) -> x.seat(0, v));
  }

  private static void promise9Stop() {
    Supplier<Coachparty> beside = () -> {
      Coachparty x = Firms.seated(2);
      x.pair(0, 1, -1, 0);
      return x;
    };
    argument("miles", 0, 600, beside, (x, v) -> x.stop(0, 0, 2000, v), x -> {
      x.drive();
      return x.ofPair(0, 1, 3) * 100;
    });
    argument("stay", 0, 300, Coachparty::new, (x, v) -> x.stop(0, v, 2000, 0), x -> x.tour(12) - 480);
    beyond("drive", Check.ARGUMENT, 0, 600, Coachparty::new, (x, v) -> x.stop(v, 0, 2000, 0));
    Check.due("a way of 0 minutes", Firms.road(new int[] {0, 0, 2000, 0}).ofStop(0, 4), 0);
    Check.due("a way of 540 minutes", Firms.road(new int[] {540, 0, 2000, 0}).ofStop(0, 4), 540);
    Check.due("a way of 600 minutes is told", new Coachparty().stop(600, 0, 2000, 0), 0);
    Check.due("and never driven", Firms.road(new int[] {600, 0, 2000, 0}).ofStop(0, 4), -1);
  }

  private static void promise9Latest() {
    beyond("latest", Check.ARGUMENT, 0, 2000, Coachparty::new, (x, v) -> x.stop(0, 0, v, 0));
    Coachparty x = new Coachparty();
    x.begin(0);
    x.stop(0, 9, 0, 0);
    Check.due("latest 0 and arrival 0", x.ofStop(0, 1), 0);
    x.begin(1);
    Check.due("latest 0 and arrival 1", x.ofStop(0, 1), 1);
    Coachparty y = new Coachparty();
    y.begin(1439);
    y.stop(516, 9, 2000, 0);
    Check.due("as late as 2000", y.ofStop(0, 0), 2000);
    Check.due("latest 2000 and arrival 2000", y.ofStop(0, 1), 0);
    y.delay(0, 1);
    Check.due("latest 2000 and arrival 2001", y.ofStop(0, 1), 1);
  }

  private static void promise10Begin() {
    argument("begin", 0, 1439, Coachparty::new, (x, v) -> x.begin(v), x -> x.tour(12));
  }

  private static void promise11Delay() {
    Supplier<Coachparty> one = () -> Firms.road(new int[] {0, 0, 2000, 0});
    argument("delay", 0, 300, one, (x, v) -> x.delay(0, v), x -> x.ofStop(0, 4));
    index("delay stop of one", 1, one, (x, v) -> x.delay(v, 1));
    index("delay stop of eight", 8, Firms::many, (x, v) -> x.delay(v, 1));
  }

  private static void promise12Late() {
    argument("late", 0, 60, () -> Firms.waiting(1, 7), (x, v) -> x.late(0, v), x -> x.late(0, 1));
    index("late guest of one", 1, () -> Firms.waiting(1, 7), (x, v) -> x.late(v, 1));
    index("late guest of ten", 10, Firms::many, (x, v) -> x.late(v, 1));
  }

  private static void promise14Rates() {
    argument("single", 0, 300, () -> Firms.seated(1), (x, v) -> x.rates(v, 7, 7), x -> x.rooms(false));
    argument("double", 0, 300, () -> Firms.seated(2), (x, v) -> x.rates(300, v, 7), x -> x.rooms(false));
    argument("triple", 0, 300, () -> Firms.seated(3), (x, v) -> x.rates(300, 300, v), x -> x.rooms(false));
  }

  private static void promise15Price() {
    argument("price", 0, 999, () -> Firms.waiting(1, 7), (x, v) -> x.price(v), x -> x.pay(0, false));
  }

  private static void promises16And17Money() {
    index("pay guest of one", 1, () -> Firms.waiting(1, 7), (x, v) -> x.pay(v, false));
    index("pay guest of ten", 10, Firms::many, (x, v) -> x.pay(v, true));
    index("cancel guest of one", 1, () -> Firms.waiting(1, 7), (x, v) -> x.cancel(v));
    index("cancel guest of ten", 10, () -> Firms.waiting(10, 7), (x, v) -> x.cancel(v));
  }

  private static void promises18To22Asked() {
    index("ofGuest guest of ten", 10, Firms::many, (x, v) -> x.ofGuest(v, 0));
    index("ofPair one of ten", 10, Firms::many, (x, v) -> x.ofPair(v, 4, 0));
    index("ofPair other of ten", 10, Firms::many, (x, v) -> x.ofPair(4, v, 0));
    index("ofStop stop of eight", 8, Firms::many, (x, v) -> x.ofStop(v, 0));
    what("ofGuest what", 9, 1, 10, LimitTests::leftForWant, (x, v) -> x.ofGuest(0, v));
    what("ofSeat what", 0, 1, 2, Firms::full, (x, v) -> x.ofSeat(0, v));
    what("ofPair what", -9, 54, 3, LimitTests::quarrelling, (x, v) -> x.ofPair(0, 1, v));
    what("ofPair of itself, what", 0, 0, 3, LimitTests::quarrelling, (x, v) -> x.ofPair(1, 1, v));
    what("ofStop what", 7, 7, 4, () -> Firms.road(new int[] {7, 0, 2000, 0}), (x, v) -> x.ofStop(0, v));
    what("tour what", 1, 480, 12, LimitTests::quarrelling, (x, v) -> x.tour(v));
  }

  private static Coachparty leftForWant() {
    Coachparty x = Firms.allOut();
    x.guest(9, 0, 4, 0);
    x.stop(0, 0, 2000, 0);
    x.drive();
    return x;
  }

  private static Coachparty quarrelling() {
    Coachparty x = Firms.seated(2);
    x.pair(0, 1, -9, 0);
    x.stop(0, 0, 2000, 600);
    x.drive();
    return x;
  }

  private static void promise23Row() {
    for (int rows = 2; rows <= 5; rows++) {
      int told = rows;
      Supplier<Coachparty> make = () -> {
        Coachparty x = new Coachparty();
        x.coach(told, 1);
        return x;
      };
      index("row of " + rows, rows, make, (x, v) -> x.row(v));
    }
  }

  private static void promise24Would() {
    index("would guest of eight", 8, Firms::full, (x, v) -> x.would(v, 4));
    index("would seat of eight", 8, Firms::full, (x, v) -> x.would(3, v));
    index("would seat of sixteen", 16, () -> Firms.seated(1), (x, v) -> x.would(0, v));
  }

  private static void promise27Split() {
    Supplier<Coachparty> two = () -> Firms.seated(2);
    beyond("split of two", Check.ARGUMENT, 1, 12, two, (x, v) -> x.split(v, true));
    beyond("loss of two", Check.ARGUMENT, 1, 12, two, (x, v) -> x.split(v, false));
    beyond("split of nobody", Check.ARGUMENT, 1, 12, Coachparty::new, (x, v) -> x.split(v, false));
    Check.asked("one seat each", two, x -> x.split(1, true), 1);
    Check.asked("twelve seats each", two, x -> x.split(12, true), 1);
  }
}
