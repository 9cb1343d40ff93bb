/** Long runs of calls, right and wrong ones, on the class and on the model: the answers are the same. */
public final class ModelTests {
  private static final int RUNS = 240;
  private static final int CALLS = 200;
  // Each eighth run goes on until the last call that is promised; the digest is the one behind these.
  private static final int MOST_CALLS = 511;

  // A sequence of numbers that is the same in each run of the tests.
  private static long seed;

  private static int upTo(int most) {
    seed = seed * 6364136223846793005L + 1442695040888963407L;
    return (int) ((seed >>> 33) % (most + 1));
  }

  private static int between(int least, int most) {
    return least + upTo(most - least);
  }

  /** Mostly a number in the bounds; now and then one at a bound, just outside, or far away. */
  private static int about(int least, int most) {
    switch (upTo(40)) {
      case 0:
        return least - 1;
      case 1:
        return most + 1;
      case 2:
        return least;
      case 3:
        return most;
      case 4:
        return upTo(4) > 0 ? between(least, most) : upTo(1) == 0 ? Integer.MIN_VALUE : Integer.MAX_VALUE;
      default:
        return between(least, most);
    }
  }

  private static int oneOf(int... values) {
    return values[upTo(values.length - 1)];
  }

  public static void main(String[] args) {
    for (int run = 0; run < RUNS; run++) {
      seed = 90001L * run + 7;
      play(run);
    }
    Check.end();
  }

  private static void play(int run) {
    Coachparty x = new Coachparty();
    Model m = new Model();
    int style = run % 4;
    int calls = run % 8 < 7 ? CALLS : MOST_CALLS;
    for (int k = 0; k < calls; k++) {
      step(x, m, "run " + run + " call " + k + ": ", k < 40 ? upTo(1) == 0 ? 2 : upTo(32) : upTo(32), style);
    }
    call("run " + run + ": digest()", x::digest, m::digest);
  }

  private static void call(String what, Check.Call got, Check.Call want) {
    Check.due(what, Check.answer(got), Check.answer(want));
  }

  private static void step(Coachparty x, Model m, String where, int op, int style) {
    int most = Math.max(0, m.guests.size() - 1);
    int guest = about(0, most);
    int other = about(0, most);
    int seat = about(0, m.rows * 4 - 1);
    int stop = about(0, Math.max(0, m.stops.size() - 1));
    boolean flag = upTo(1) == 1;
    if (op < 9) {
      stepCoach(x, m, where, op, style, guest, other, seat, flag);
    } else if (op < 18) {
      stepRoad(x, m, where, op, style, guest, stop, flag);
    } else {
      stepAsk(x, m, where, op, guest, other, seat, stop, flag);
    }
  }

  private static void stepCoach(Coachparty x, Model m, String where, int op, int style, int guest, int other, int seat,
      boolean flag) {
    switch (op) {
      case 0: {
        int rows = style == 1 ? about(2, 3) : about(2, 5);
        int axle = about(0, 4);
        call(where + "coach " + rows + " " + axle, () -> x.coach(rows, axle), () -> m.coach(rows, axle));
        break;
      }
      case 1: {
        boolean isOut = flag || style == 1;
        call(where + "out " + seat + " " + isOut, () -> x.out(seat, isOut), () -> m.out(seat, isOut));
        break;
      }
      case 2: {
        int sick = about(0, 9);
        int wish = about(0, 9);
        int row = about(0, 4);
        int village = style == 2 ? about(0, 1) : about(0, 7);
        call(where + "guest", () -> x.guest(sick, wish, row, village), () -> m.guest(sick, wish, row, village));
        break;
      }
      case 3:
      case 4: {
        int bond = about(-9, 9);
        int law = about(0, 2) * upTo(1);
        call(where + "pair " + guest + " " + other, () -> x.pair(guest, other, bond, law),
            () -> m.pair(guest, other, bond, law));
        break;
      }
      case 5:
        call(where + "move " + guest + " " + seat, () -> x.move(guest, seat), () -> m.move(guest, seat));
        break;
      case 6:
        if (upTo(2) == 0) {
          call(where + "settle", x::settle, m::settle);
        }
        break;
      default:
        call(where + "seat " + guest + " " + seat, () -> x.seat(guest, seat), () -> m.seat(guest, seat));
    }
  }

  private static void stepRoad(Coachparty x, Model m, String where, int op, int style, int guest, int stop,
      boolean flag) {
    switch (op) {
      case 9: {
        int drive = style == 3 ? oneOf(0, 1, 45, 135, 269, 270, 271, 540) : about(0, upTo(3) == 0 ? 600 : 120);
        int stay = oneOf(0, 10, 44, 45, 46, about(0, 300));
        int latest = oneOf(2000, 2000, about(0, 2000), m.begin + drive, m.begin + drive - 1);
        int miles = about(0, 600);
        call(where + "stop", () -> x.stop(drive, stay, latest, miles), () -> m.stop(drive, stay, latest, miles));
        break;
      }
      case 10: {
        int minute = about(0, 1439);
        call(where + "begin", () -> x.begin(minute), () -> m.begin(minute));
        break;
      }
      case 11: {
        int minutes = style == 3 ? oneOf(0, 1, 2, 269, 270) : about(0, 300);
        call(where + "delay", () -> x.delay(stop, minutes), () -> m.delay(stop, minutes));
        break;
      }
      case 12: {
        int minutes = about(0, 60);
        call(where + "late", () -> x.late(guest, minutes), () -> m.late(guest, minutes));
        break;
      }
      case 13:
        call(where + "drive", x::drive, m::drive);
        break;
      case 14: {
        int single = about(0, 300);
        int twice = about(0, 300);
        int triple = about(0, 300);
        call(where + "rates", () -> x.rates(single, twice, triple), () -> m.rates(single, twice, triple));
        break;
      }
      case 15: {
        int price = about(0, 999);
        call(where + "price", () -> x.price(price), () -> m.price(price));
        break;
      }
      case 16:
        call(where + "pay " + guest, () -> x.pay(guest, flag), () -> m.pay(guest, flag));
        break;
      default:
        if (upTo(3) == 0) {
          call(where + "cancel " + guest, () -> x.cancel(guest), () -> m.cancel(guest));
        }
    }
  }

  private static void stepAsk(Coachparty x, Model m, String where, int op, int guest, int other, int seat, int stop,
      boolean flag) {
    switch (op) {
      case 18: {
        int what = about(0, 10);
        call(where + "ofGuest " + guest + " " + what, () -> x.ofGuest(guest, what), () -> m.ofGuest(guest, what));
        break;
      }
      case 19: {
        int what = about(0, 2);
        call(where + "ofSeat " + seat + " " + what, () -> x.ofSeat(seat, what), () -> m.ofSeat(seat, what));
        break;
      }
      case 20: {
        int what = about(0, 3);
        call(where + "ofPair " + guest + " " + other + " " + what, () -> x.ofPair(guest, other, what),
            () -> m.ofPair(guest, other, what));
        break;
      }
      case 21:
      case 22: {
        int what = about(0, 4);
        call(where + "ofStop " + stop + " " + what, () -> x.ofStop(stop, what), () -> m.ofStop(stop, what));
        break;
      }
      case 23: {
        int what = about(0, 12);
        call(where + "tour " + what, () -> x.tour(what), () -> m.tour(what));
        break;
      }
      case 24: {
        int row = about(0, m.rows - 1);
        call(where + "row " + row, () -> x.row(row), () -> m.row(row));
        break;
      }
      case 25:
      case 26:
        call(where + "would " + guest + " " + seat, () -> x.would(guest, seat), () -> m.would(guest, seat));
        break;
      case 27:
        call(where + "asked", x::asked, m::asked);
        break;
      case 28:
        call(where + "rooms " + flag, () -> x.rooms(flag), () -> m.rooms(flag));
        break;
      case 29:
      case 30: {
        int seats = about(1, 12);
        call(where + "split " + seats + " " + flag, () -> x.split(seats, flag), () -> m.split(seats, flag));
        break;
      }
      case 31:
        call(where + "isSound", x::isSound, m::isSound);
        break;
      default:
        call(where + "digest", x::digest, m::digest);
    }
  }
}
