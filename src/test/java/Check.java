import java.util.Objects;

/** Counts what is not as due, and tells it. */
final class Check {
  /** A call that may throw. */
  interface Call {
    Object run();
  }

  private static int wrong = 0;

  private Check() {
  }

  static void due(String what, Object got, Object want) {
    if (!Objects.equals(got, want)) {
      wrong++;
      System.out.println(what + " answered " + got + ", due is " + want);
    }
  }

  /** The call has to throw just this class, and nothing that can be asked may be another than before. */
  static void thrown(String what, Coachparty x, Class<? extends RuntimeException> want, Call call) {
    String before = snapshot(x);
    Object got;
    try {
      got = call.run();
    } catch (RuntimeException e) {
      got = e.getClass();
    }
    due(what, got, want);
    due(what + " changed nothing", snapshot(x), before);
  }

  /** All that can be asked of a firm. */
  static String snapshot(Coachparty x) {
    StringBuilder text = new StringBuilder();
    for (int what = 0; what <= 12; what++) {
      text.append(x.tour(what)).append(',');
    }
    int guests = x.tour(2);
    for (int guest = 0; guest < guests; guest++) {
      text.append("\nguest ").append(guest).append(':');
      for (int what = 0; what <= 10; what++) {
        text.append(' ').append(x.ofGuest(guest, what));
      }
      for (int other = 0; other < guests; other++) {
        for (int what = 0; what <= 3; what++) {
          text.append(what == 0 ? " | " : " ").append(x.ofPair(guest, other, what));
        }
      }
    }
    int seats = seats(x);
    for (int row = 0; row < seats / 4; row++) {
      text.append('\n').append(x.row(row));
    }
    for (int stop = 0; stop < x.tour(10); stop++) {
      text.append("\nstop ").append(stop).append(':');
      for (int what = 0; what <= 4; what++) {
        text.append(' ').append(x.ofStop(stop, what));
      }
    }
    text.append("\nasked ").append(x.asked());
    text.append(" rooms ").append(x.rooms(true)).append(' ').append(x.rooms(false));
    for (int small = 1; small <= 12; small++) {
      text.append(" split ").append(x.split(small, true)).append(' ').append(x.split(small, false));
    }
    return text.append(x.isSound()).append(x.digest()).toString();
  }

  private static int seats(Coachparty x) {
    int seat = 0;
    while (seat < 20) {
      try {
        x.ofSeat(seat, 0);
      } catch (IndexOutOfBoundsException e) {
        return seat;
      }
      seat++;
    }
    return seat;
  }

  /** To be called last: ends the test with 1 if something was wrong. */
  static void end() {
    if (wrong > 0) {
      System.out.println(wrong + " answers are not as due");
      System.exit(1);
    }
  }
}
