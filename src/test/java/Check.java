import java.util.Objects;
import java.util.function.Function;
import java.util.function.Supplier;

/** Counts what is not as due, and tells it. */
final class Check {
  static final Class<IllegalArgumentException> ARGUMENT = IllegalArgumentException.class;
  static final Class<IllegalStateException> STATE = IllegalStateException.class;
  static final Class<IndexOutOfBoundsException> INDEX = IndexOutOfBoundsException.class;

  /** A call that may throw. */
  interface Call {
    Object run();
  }

  private static int wrong = 0;

  private Check() {
  }

  static void due(String what, Object got, Object want) {
    if (!Objects.equals(got, want)) {
      wrong++;
      System.out.println(what + " answered " + got + ", due is " + want);
    }
  }

  /** What the call answers, or the class that it throws. */
  static Object answer(Call call) {
    try {
      return call.run();
    } catch (RuntimeException e) {
      return e.getClass();
    }
  }

  /**
   * The call has to throw just this class, and the checksum is the same behind it. It takes three calls, so that a test
   * can do this often on one firm: nothing is promised of what a firm answers after its 512th call.
   */
  static void thrown(String what, Coachparty x, Class<? extends RuntimeException> want, Call call) {
    long before = x.digest();
    due(what, answer(call), want);
    due(what + " changed nothing", x.digest(), before);
  }

  /** As thrown, but to the last number: on two firms that are made alike, of which one is not called. */
  static void refused(String what, Class<? extends RuntimeException> want, Supplier<Coachparty> make,
      Function<Coachparty, Object> call) {
    Coachparty x = make.get();
    due(what, answer(() -> call.apply(x)), want);
    due(what + " changed nothing", inside(x), inside(make.get()));
  }

  /** The call has to answer that, and to change nothing. */
  static void asked(String what, Supplier<Coachparty> make, Function<Coachparty, Object> call, Object want) {
    Coachparty x = make.get();
    due(what, answer(() -> call.apply(x)), want);
    due(what + " changed nothing", inside(x), inside(make.get()));
  }

  /**
   * All that can be found out about a firm, also what only a change tells; so the firm is another one behind it. It
   * takes some 400 calls at most: the document promises 512.
   */
  static String inside(Coachparty x) {
    StringBuilder text = new StringBuilder();
    text.append(x.digest());
    for (int what = 0; what <= 12; what++) {
      text.append(' ').append(x.tour(what));
    }
    int guests = x.tour(2);
    for (int guest = 0; guest < guests; guest++) {
      text.append("\nguest ").append(guest).append(':');
      for (int what = 0; what <= 10; what++) {
        text.append(' ').append(x.ofGuest(guest, what));
      }
      for (int other = guest + 1; other < guests; other++) {
        text.append(" | ").append(x.ofPair(guest, other, 0)).append(' ').append(x.ofPair(guest, other, 1));
      }
      text.append(", late ").append(x.late(guest, 0));
    }
    for (int stop = 0; stop < x.tour(10); stop++) {
      text.append("\nstop ").append(stop).append(':');
      for (int what = 0; what <= 4; what++) {
        text.append(' ').append(x.ofStop(stop, what));
      }
    }
    for (int stop = 0; stop < x.tour(10); stop++) {
      text.append(", delay ").append(x.delay(stop, 0));
    }
    text.append("\nrooms ").append(x.rooms(true)).append(' ').append(x.rooms(false));
    text.append(" split ").append(x.split(5, true)).append(' ').append(x.split(5, false));
    text.append("\nbegin ").append(x.begin(0)).append(" price ").append(x.price(0));
    text.append(" double ").append(x.rates(0, 0, 0));
    text.append("\nseats ").append(x.coach(5, 0)).append(' ').append(x.tour(6));
    for (int row = 0; row < 5; row++) {
      text.append('\n').append(x.row(row));
    }
    text.append("\ndrive ").append(answer(x::drive)).append(' ').append(x.digest());
    return text.toString();
  }

  /** All that can be asked of a firm. */
  static String snapshot(Coachparty x) {
    StringBuilder text = new StringBuilder();
    for (int what = 0; what <= 12; what++) {
      text.append(x.tour(what)).append(',');
    }
    int guests = x.tour(2);
    for (int guest = 0; guest < guests; guest++) {
      text.append("\nguest ").append(guest).append(':');
      for (int what = 0; what <= 10; what++) {
        text.append(' ').append(x.ofGuest(guest, what));
      }
      for (int other = 0; other < guests; other++) {
        for (int what = 0; what <= 3; what++) {
          text.append(what == 0 ? " | " : " ").append(x.ofPair(guest, other, what));
        }
      }
    }
    int seats = seats(x);
    for (int row = 0; row < seats / 4; row++) {
      text.append('\n').append(x.row(row));
    }
    for (int stop = 0; stop < x.tour(10); stop++) {
      text.append("\nstop ").append(stop).append(':');
      for (int what = 0; what <= 4; what++) {
        text.append(' ').append(x.ofStop(stop, what));
      }
    }
    text.append("\nasked ").append(x.asked());
    text.append(" rooms ").append(x.rooms(true)).append(' ').append(x.rooms(false));
    for (int small = 1; small <= 12; small++) {
      text.append(" split ").append(x.split(small, true)).append(' ').append(x.split(small, false));
    }
    return text.append(x.isSound()).append(x.digest()).toString();
  }

  private static int seats(Coachparty x) {
    int seat = 0;
    while (seat < 20) {
      try {
        x.ofSeat(seat, 0);
      } catch (IndexOutOfBoundsException e) {
        return seat;
      }
      seat++;
    }
    return seat;
  }

  /** To be called last: ends the test with 1 if something was wrong. */
  static void end() {
    if (wrong > 0) {
      System.out.println(wrong + " answers are not as due");
      System.exit(1);
    }
  }
}
