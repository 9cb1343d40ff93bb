/** A firm of coach tours. What each call answers is said by the document's promise of the same name. */
public final class Coachparty {
  private static final int NONE = -1;
  private static final int MOST_GUESTS = 10;
  private static final int MOST_STOPS = 8;
  private static final int LEAST_ROWS = 2;
  private static final int MOST_ROWS = 5;
  private static final int COLUMNS = 4;
  private static final int LAST_DAY = 60;
  private static final int NO_LOSS = -999;
  // COST is lowered by 1 at least with each MOVE and never spans as much as this.
  private static final int MOST_MOVES = 1000000;

  // What is kept of a GUEST; ofGuest() asks for it by these numbers (but for LATE).
  private static final int SICK = 0;
  private static final int WISH = 1;
  private static final int LAST_ROW = 2;
  private static final int VILLAGE = 3;
  private static final int STATE = 4;
  private static final int SEAT = 5;
  private static final int TURNS = 6;
  private static final int OWED = 7;
  private static final int PAID = 8;
  private static final int QUARRELS = 9;
  private static final int WANTED_SEAT = 10;
  private static final int LATE = 11;
  private static final int GUEST_WIDTH = 12;

  private static final int WAITING = 0;
  private static final int ABOARD = 1;
  private static final int LEFT = 2;
  private static final int GONE = 3;

  private static final int MUST = 1;
  private static final int NEVER = 2;

  private final Table guests;
  private final Ties ties;
  private final Cabin cabin;
  private final Seating seating;
  private final Mending mending;
  private final Road road;
  private final Nights nights;
  private final Halves halves;
  private int day;
  private int fare;
  private int takings;

  public Coachparty() {
    guests = new Table(MOST_GUESTS, GUEST_WIDTH);
    ties = new Ties();
    cabin = new Cabin();
    seating = new Seating(guests, ties, cabin);
    mending = new Mending(seating);
    road = new Road();
    nights = new Nights(seating);
    halves = new Halves(seating);
    fare = 200;
  }

  // ---- the coach and the guests

  public int coach(int rows, int axle) throws IllegalArgumentException, IllegalStateException {
    if (isOutside(rows, LEAST_ROWS, MOST_ROWS) || isOutside(axle, 0, MOST_ROWS - 1)) {
      throw new IllegalArgumentException("rows or axle out of range");
    }
    if (seating.lastTaken() >= rows * COLUMNS) {
      throw new IllegalStateException("a guest would have no seat");
    }
    cabin.rows = rows;
    cabin.axle = axle;
    return cabin.seats();
  }

  public int out(int seat, boolean isOut) throws IndexOutOfBoundsException, IllegalStateException {
    needSeat(seat);
    if (seating.sitter(seat) != NONE) {
      throw new IllegalStateException("a guest sits there");
    }
    cabin.setOut(seat, isOut);
    return cabin.countOut();
  }

  public int guest(int sick, int wish, int row, int village) throws IllegalArgumentException, IllegalStateException {
    if (isOutside(sick, 0, 9) || isOutside(wish, 0, 9)
        || isOutside(row, 0, MOST_ROWS - 1) || isOutside(village, 0, MOST_STOPS - 1)) {
      throw new IllegalArgumentException("sick, wish, row or village out of range");
    }
    int guest = guests.count;
    if (guest >= MOST_GUESTS) {
      throw new IllegalStateException("no more guests");
    }
    guests.count = guest + 1;
    guests.set(guest, SICK, sick);
    guests.set(guest, WISH, wish);
    guests.set(guest, LAST_ROW, row);
    guests.set(guest, VILLAGE, village);
    guests.set(guest, STATE, WAITING);
    guests.set(guest, SEAT, NONE);
    return guest;
  }

  public int pair(int one, int other, int bond, int law) throws IndexOutOfBoundsException, IllegalArgumentException {
    needGuest(one);
    needGuest(other);
    if (one == other || isOutside(bond, -9, 9) || isOutside(law, 0, NEVER)) {
      throw new IllegalArgumentException("the same guest, or bond or law out of range");
    }
    int before = ties.bonds.get(one, other);
    ties.bonds.setBoth(one, other, bond);
    ties.laws.setBoth(one, other, law);
    return before;
  }

  public int move(int guest, int seat) throws IndexOutOfBoundsException, IllegalStateException {
    needMove(guest, seat);
    seating.swap(guest, seat);
    return seating.cost();
  }

  public int settle() {
    int moves = 0;
    while (moves < MOST_MOVES && seating.makeBestMove()) {
      moves++;
    }
    return moves;
  }

  public int seat(int guest, int seat) throws IndexOutOfBoundsException, IllegalStateException {
    needGuest(guest);
    needSeat(seat);
    if (guests.get(guest, STATE) != WAITING || !seating.isFree(seat)) {
      throw new IllegalStateException("the guest does not wait, or the seat is out or taken");
    }
    seating.takeAboard(guest, seat);
    return seating.countOf(ABOARD);
  }

  // ---- the road and money

  public int stop(int drive, int stay, int latest, int miles) throws IllegalArgumentException, IllegalStateException {
    if (isOutside(drive, 0, 600) || isOutside(miles, 0, 600)
        || isOutside(stay, 0, 300) || isOutside(latest, 0, 2000)) {
      throw new IllegalArgumentException("drive, stay, latest or miles out of range");
    }
    if (road.stops.count >= MOST_STOPS) {
      throw new IllegalStateException("no more stops");
    }
    return road.addStop(drive, stay, latest, miles);
  }

  public int begin(int minute) throws IllegalArgumentException {
    if (isOutside(minute, 0, 1439)) {
      throw new IllegalArgumentException("minute out of range");
    }
    int before = road.start;
    road.setStart(minute);
    return before;
  }

  public int delay(int stop, int minutes) throws IndexOutOfBoundsException, IllegalArgumentException {
    needStop(stop);
    if (isOutside(minutes, 0, 300)) {
      throw new IllegalArgumentException("minutes out of range");
    }
    int before = road.stops.get(stop, Road.DELAY);
    road.setDelay(stop, minutes);
    return before;
  }

  public int late(int guest, int minutes) throws IndexOutOfBoundsException, IllegalArgumentException {
    needGuest(guest);
    if (isOutside(minutes, 0, 60)) {
      throw new IllegalArgumentException("minutes out of range");
    }
    int before = guests.get(guest, LATE);
    guests.set(guest, LATE, minutes);
    return before;
  }

  public int drive() throws IllegalStateException {
    if (day >= LAST_DAY || road.stops.count == 0) {
      throw new IllegalStateException("no day or no stop");
    }
    int came = 0;
    for (int stop = 0; stop < road.arrivals; stop++) {
      seating.driveMiles(road.stops.get(stop, Road.MILES));
      came += comeAboard(stop);
    }
    endDay();
    return came;
  }

  public int rates(int single, int twice, int triple) throws IllegalArgumentException {
    if (isOutside(single, 0, 300) || isOutside(twice, 0, 300) || isOutside(triple, 0, 300)) {
      throw new IllegalArgumentException("a rate out of range");
    }
    int before = nights.costOfTwo;
    nights.costOfOne = single;
    nights.costOfTwo = twice;
    nights.costOfThree = triple;
    return before;
  }

  public int price(int price) throws IllegalArgumentException {
    if (isOutside(price, 0, 999)) {
      throw new IllegalArgumentException("price out of range");
    }
    int before = fare;
    fare = price;
    return before;
  }

  public int pay(int guest, boolean isDeposit) throws IndexOutOfBoundsException, IllegalStateException {
    needGuest(guest);
    if (guests.get(guest, STATE) == GONE) {
      throw new IllegalStateException("the guest is gone");
    }
    int due = isDeposit ? fare / 5 : fare;
    int paid = Math.max(0, due - guests.get(guest, PAID));
    guests.add(guest, PAID, paid);
    takings += paid;
    return paid;
  }

  public int cancel(int guest) throws IndexOutOfBoundsException, IllegalStateException {
    needGuest(guest);
    int state = guests.get(guest, STATE);
    if (state == ABOARD || state == GONE) {
      throw new IllegalStateException("the guest is aboard or gone");
    }
    int back = refundOf(guest);
    guests.add(guest, PAID, -back);
    takings -= back;
    guests.set(guest, STATE, GONE);
    return back;
  }

  // ---- what is asked

  public int ofGuest(int guest, int what) throws IndexOutOfBoundsException, IllegalArgumentException {
    needGuest(guest);
    needWhat(what, WANTED_SEAT);
    if (what == OWED) {
      return seating.sits(guest) ? seating.owed(guest) : 0;
    }
    return what == QUARRELS ? ties.quarrelsOf(guest) : guests.get(guest, what);
  }

  public int ofSeat(int seat, int what) throws IndexOutOfBoundsException, IllegalArgumentException {
    needSeat(seat);
    needWhat(what, 2);
    if (what == 0) {
      return seating.sitter(seat);
    }
    boolean isSo = what == 1 ? cabin.isOut(seat) : cabin.isWindow(seat);
    return isSo ? 1 : 0;
  }

  public int ofPair(int one, int other, int what) throws IndexOutOfBoundsException, IllegalArgumentException {
    needGuest(one);
    needGuest(other);
    needWhat(what, 3);
    switch (what) {
      case 0:
        return ties.bonds.get(one, other);
      case 1:
        return ties.laws.get(one, other);
      case 2:
        return seating.apart(one, other);
      default:
        return ties.quarrels.get(one, other);
    }
  }

  public int ofStop(int stop, int what) throws IndexOutOfBoundsException, IllegalArgumentException {
    needStop(stop);
    needWhat(what, Road.DRIVEN);
    return road.plan.get(stop, what);
  }

  public int tour(int what) throws IllegalArgumentException {
    needWhat(what, 12);
    switch (what) {
      case 0:
        return day;
      case 1:
        return cabin.seats() - cabin.countOut();
      case 2:
        return guests.count;
      case 3:
        return seating.countOf(ABOARD);
      case 4:
        return seating.countOf(LEFT);
      case 5:
        return seating.countOf(GONE);
      case 6:
        return seating.cost();
      case 7:
        return seating.breaches();
      case 8:
        return ties.allQuarrels();
      case 9:
        return takings;
      case 10:
        return road.stops.count;
      case 11:
        return road.arrivals;
      default:
        return road.end();
    }
  }

  public String row(int row) throws IndexOutOfBoundsException {
    if (isOutside(row, 0, cabin.rows - 1)) {
      throw new IndexOutOfBoundsException("no such row");
    }
    StringBuilder text = new StringBuilder();
    for (int column = 0; column < COLUMNS; column++) {
      if (column > 0) {
        text.append(column == 2 ? '|' : ' ');
      }
      appendSeat(text, row * COLUMNS + column);
    }
    return text.toString();
  }

  // ---- what would be (nothing is changed)

  public int would(int guest, int seat) throws IndexOutOfBoundsException, IllegalStateException {
    needMove(guest, seat);
    return seating.change(guest, seat);
  }

  public int asked() {
    return mending.fewest();
  }

  public int rooms(boolean isMany) {
    int all = seating.aboardSet();
    nights.partAll(all);
    return nights.best.get(all, isMany ? Nights.GROUPS : Nights.COST);
  }

  public int split(int seats, boolean isSet) throws IllegalArgumentException {
    if (isOutside(seats, 1, 12)) {
      throw new IllegalArgumentException("seats out of range");
    }
    int all = seating.aboardSet();
    if (all == 0) {
      return 0;
    }
    int first = halves.bestFirst(all, seats);
    if (isSet) {
      return first;
    }
    return first == NONE ? NO_LOSS : halves.loss(first, all);
  }

  public boolean isSound() {
    for (int guest = 0; guest < guests.count; guest++) {
      if (guests.get(guest, PAID) < 0 || !seating.isSoundlySeated(guest)) {
        return false;
      }
    }
    return ties.bonds.isSymmetric(guests.count) && ties.laws.isSymmetric(guests.count) && road.isInOrder();
  }

  public long digest() {
    long sum = 4517;
    for (int what = 0; what <= 12; what++) {
      sum = sum * 31 + tour(what);
    }
    for (int guest = 0; guest < guests.count; guest++) {
      for (int what = STATE; what <= WANTED_SEAT; what++) {
        sum = sum * 31 + ofGuest(guest, what);
      }
    }
    for (int seat = 0; seat < cabin.seats(); seat++) {
      sum = sum * 31 + seating.sitter(seat);
    }
    for (int stop = 0; stop < road.stops.count; stop++) {
      for (int what = 0; what <= Road.DRIVEN; what++) {
        sum = sum * 31 + ofStop(stop, what);
      }
    }
    sum = withPairs(sum);
    sum = sum * 31 + mending.fewest();
    sum = sum * 31 + rooms(true);
    sum = sum * 31 + rooms(false);
    sum = sum * 31 + split(4, true);
    sum = sum * 31 + split(4, false);
    return sum * 31 + (isSound() ? 1 : 0);
  }

  // ---- what several calls need

  private static boolean isOutside(int value, int least, int most) {
    return value < least || value > most;
  }

  private void needGuest(int guest) {
    if (isOutside(guest, 0, guests.count - 1)) {
      throw new IndexOutOfBoundsException("no such guest");
    }
  }

  private void needSeat(int seat) {
    if (!cabin.has(seat)) {
      throw new IndexOutOfBoundsException("no such seat");
    }
  }

  private void needStop(int stop) {
    if (isOutside(stop, 0, road.stops.count - 1)) {
      throw new IndexOutOfBoundsException("no such stop");
    }
  }

  private static void needWhat(int what, int most) {
    if (isOutside(what, 0, most)) {
      throw new IllegalArgumentException("what out of range");
    }
  }

  private void needMove(int guest, int seat) {
    needGuest(guest);
    needSeat(seat);
    if (!seating.sits(guest) || cabin.isOut(seat)) {
      throw new IllegalStateException("the guest is not aboard, or the seat is out");
    }
  }

  private int comeAboard(int stop) {
    int came = 0;
    for (int guest = 0; guest < guests.count; guest++) {
      if (guests.get(guest, STATE) == WAITING && guests.get(guest, VILLAGE) == stop
          && comesAboard(guest, road.stayAt(stop))) {
        came++;
      }
    }
    return came;
  }

  /** Takes a guest aboard, or leaves it behind. */
  private boolean comesAboard(int guest, int stay) {
    boolean isTooLate = guests.get(guest, LATE) > stay;
    int seat = seating.firstFree();
    if (isTooLate || seat == NONE) {
      guests.set(guest, STATE, LEFT);
      guests.set(guest, WANTED_SEAT, isTooLate ? 0 : 1);
      return false;
    }
    seating.takeAboard(guest, seat);
    return true;
  }

  private void endDay() {
    for (int guest = 0; guest < guests.count; guest++) {
      guests.set(guest, LATE, 0);
      if (seating.sits(guest) && cabin.isWindow(guests.get(guest, SEAT))) {
        guests.add(guest, TURNS, 1);
      }
    }
    road.clearDelays();
    day++;
  }

  private int refundOf(int guest) {
    int paid = guests.get(guest, PAID);
    if (day == 0) {
      return paid;
    }
    if (guests.get(guest, STATE) == WAITING) {
      return paid / 2;
    }
    return guests.get(guest, WANTED_SEAT) == 1 ? Math.min(20, paid) : 0;
  }

  private void appendSeat(StringBuilder text, int seat) {
    int guest = seating.sitter(seat);
    if (guest != NONE) {
      text.append(guest);
    } else {
      text.append(cabin.isOut(seat) ? 'x' : '.');
    }
  }

  private long withPairs(long digest) {
    long sum = digest;
    for (int one = 0; one < guests.count; one++) {
      for (int other = one + 1; other < guests.count; other++) {
        sum = sum * 31 + ofPair(one, other, 2);
        sum = sum * 31 + ofPair(one, other, 3);
      }
    }
    return sum;
  }

  private static boolean isIn(int set, int number) {
    return (set >> number & 1) == 1;
  }

  /** Numbers by rows and columns. What is outside reads as 0 and is not written: so no index can be a wrong one. */
  private static final class Table {
    private final int width;
    private final int[] cells;
    // How many of the rows are in use; the owner of the table counts them.
    int count;

    Table(int height, int width) {
      this.width = width;
      cells = new int[Math.max(0, height * width)];
    }

    int get(int row, int column) {
      int index = row * width + column;
      return column >= 0 && column < width && index >= 0 && index < cells.length ? cells[index] : 0;
    }

    void set(int row, int column, int value) {
      int index = row * width + column;
      if (column >= 0 && column < width && index >= 0 && index < cells.length) {
        cells[index] = value;
      }
    }

    void add(int row, int column, int more) {
      set(row, column, get(row, column) + more);
    }

    void setBoth(int one, int other, int value) {
      set(one, other, value);
      set(other, one, value);
    }

    boolean isSymmetric(int size) {
      for (int one = 0; one < size; one++) {
        for (int other = one + 1; other < size; other++) {
          if (get(one, other) != get(other, one)) {
            return false;
          }
        }
      }
      return true;
    }
  }

  /** What is between two guests; each table holds a pair from both sides. */
  private static final class Ties {
    final Table bonds = new Table(MOST_GUESTS, MOST_GUESTS);
    final Table laws = new Table(MOST_GUESTS, MOST_GUESTS);
    final Table quarrels = new Table(MOST_GUESTS, MOST_GUESTS);

    boolean isBroken(int one, int other, int apart) {
      int law = laws.get(one, other);
      return law == MUST ? apart != 1 : law == NEVER && apart < 3;
    }

    void quarrel(int one, int other, int miles) {
      int more = Math.max(0, -bonds.get(one, other)) * miles / 100;
      quarrels.setBoth(one, other, quarrels.get(one, other) + more);
    }

    int quarrelsOf(int guest) {
      int sum = 0;
      for (int other = 0; other < MOST_GUESTS; other++) {
        sum += quarrels.get(guest, other);
      }
      return sum;
    }

    int allQuarrels() {
      int sum = 0;
      for (int one = 0; one < MOST_GUESTS; one++) {
        for (int other = one + 1; other < MOST_GUESTS; other++) {
          sum += quarrels.get(one, other);
        }
      }
      return sum;
    }
  }

  /** The seats of the coach, whoever sits there. */
  private static final class Cabin {
    // Longer than the coach may be now: a seat stays out while it is not there.
    private final boolean[] outs = new boolean[MOST_ROWS * COLUMNS];
    int rows = 4;
    int axle = 1;

    int seats() {
      return rows * COLUMNS;
    }

    boolean has(int seat) {
      return seat >= 0 && seat < rows * COLUMNS;
    }

    boolean isOut(int seat) {
      return seat >= 0 && seat < outs.length && outs[seat];
    }

    void setOut(int seat, boolean isOut) {
      if (seat >= 0 && seat < outs.length) {
        outs[seat] = isOut;
      }
    }

    int countOut() {
      int count = 0;
      for (int seat = 0; seat < rows * COLUMNS; seat++) {
        if (isOut(seat)) {
          count++;
        }
      }
      return count;
    }

    boolean isWindow(int seat) {
      int column = seat % COLUMNS;
      return column == 0 || column == COLUMNS - 1;
    }

    int rowsBehindAxle(int seat) {
      return Math.max(0, seat / COLUMNS - axle);
    }
  }

  /** Who sits where, and what that costs. */
  private static final class Seating {
    final Table guests;
    final Ties ties;
    final Cabin cabin;

    Seating(Table guests, Ties ties, Cabin cabin) {
      this.guests = guests;
      this.ties = ties;
      this.cabin = cabin;
    }

    boolean sits(int guest) {
      return guests.get(guest, SEAT) != NONE;
    }

    int sitter(int seat) {
      for (int guest = 0; guest < guests.count; guest++) {
        if (guests.get(guest, SEAT) == seat) {
          return guest;
        }
      }
      return NONE;
    }

    boolean isFree(int seat) {
      return !cabin.isOut(seat) && sitter(seat) == NONE;
    }

    int firstFree() {
      for (int seat = 0; seat < cabin.seats(); seat++) {
        if (isFree(seat)) {
          return seat;
        }
      }
      return NONE;
    }

    int lastTaken() {
      int last = NONE;
      for (int guest = 0; guest < guests.count; guest++) {
        last = Math.max(last, guests.get(guest, SEAT));
      }
      return last;
    }

    int countOf(int state) {
      int count = 0;
      for (int guest = 0; guest < guests.count; guest++) {
        if (guests.get(guest, STATE) == state) {
          count++;
        }
      }
      return count;
    }

    int aboardSet() {
      int set = 0;
      for (int guest = 0; guest < guests.count; guest++) {
        if (sits(guest)) {
          set |= 1 << guest;
        }
      }
      return set;
    }

    void takeAboard(int guest, int seat) {
      guests.set(guest, STATE, ABOARD);
      guests.set(guest, SEAT, seat);
    }

    boolean isSoundlySeated(int guest) {
      int seat = guests.get(guest, SEAT);
      return seat == NONE || cabin.has(seat) && !cabin.isOut(seat) && sitter(seat) == guest;
    }

    void driveMiles(int miles) {
      for (int one = 0; one < guests.count; one++) {
        for (int other = one + 1; other < guests.count; other++) {
          if (apart(one, other) == 1) {
            ties.quarrel(one, other, miles);
          }
        }
      }
    }

    int owed(int guest) {
      int most = 0;
      for (int other = 0; other < guests.count; other++) {
        if (sits(other)) {
          most = Math.max(most, guests.get(other, TURNS));
        }
      }
      return most - guests.get(guest, TURNS);
    }

    int apart(int one, int other) {
      int seat = guests.get(one, SEAT);
      int otherSeat = guests.get(other, SEAT);
      if (seat == NONE || otherSeat == NONE) {
        return NONE;
      }
      return Math.abs(seat / COLUMNS - otherSeat / COLUMNS) + Math.abs(seat % COLUMNS - otherSeat % COLUMNS);
    }

    int breaches() {
      int count = 0;
      for (int guest = 0; guest < guests.count; guest++) {
        count += breachesOf(guest, guest + 1);
      }
      return count;
    }

    /** The breaches of a guest, and of its pairs with the guests from a number on. */
    int breachesOf(int guest, int from) {
      int seat = guests.get(guest, SEAT);
      if (seat == NONE) {
        return 0;
      }
      int count = seat / COLUMNS > guests.get(guest, LAST_ROW) ? 1 : 0;
      for (int other = from; other < guests.count; other++) {
        int apart = apart(guest, other);
        if (apart != NONE && ties.isBroken(guest, other, apart)) {
          count++;
        }
      }
      return count;
    }

    int cost() {
      int sum = 0;
      for (int guest = 0; guest < guests.count; guest++) {
        sum += costOf(guest, guest + 1);
      }
      return sum;
    }

    /** What a guest (or NONE) costs, and its pairs with the guests from a number on. */
    private int costOf(int guest, int from) {
      int seat = guest == NONE ? NONE : guests.get(guest, SEAT);
      if (seat == NONE) {
        return 0;
      }
      int sum = guests.get(guest, SICK) * cabin.rowsBehindAxle(seat) + 100 * breachesOf(guest, from);
      if (!cabin.isWindow(seat)) {
        sum += guests.get(guest, WISH) + owed(guest);
      }
      for (int other = from; other < guests.count; other++) {
        if (apart(guest, other) == 1) {
          sum -= ties.bonds.get(guest, other);
        }
      }
      return sum;
    }

    void swap(int guest, int seat) {
      int other = sitter(seat);
      if (other != NONE) {
        guests.set(other, SEAT, guests.get(guest, SEAT));
      }
      guests.set(guest, SEAT, seat);
    }

    /** By how much the cost would be more by a move. */
    int change(int guest, int seat) {
      int home = guests.get(guest, SEAT);
      int other = sitter(seat);
      // The pair of both is counted twice, but it is as far apart after their swap as ahead of it.
      int before = costOf(guest, 0) + costOf(other, 0);
      swap(guest, seat);
      int after = costOf(guest, 0) + costOf(other, 0);
      swap(guest, home);
      return after - before;
    }

    /** Makes the move that lowers the cost most; false if none lowers it. */
    boolean makeBestMove() {
      int most = 0;
      int bestGuest = NONE;
      int bestSeat = NONE;
      for (int guest = 0; guest < guests.count; guest++) {
        for (int seat = 0; sits(guest) && seat < cabin.seats(); seat++) {
          int change = cabin.isOut(seat) ? 0 : change(guest, seat);
          if (change < most) {
            most = change;
            bestGuest = guest;
            bestSeat = seat;
          }
        }
      }
      if (bestGuest == NONE) {
        return false;
      }
      swap(bestGuest, bestSeat);
      return true;
    }
  }

  /** How few have to change their seats for a lawful seating. Who is tried stands up, and has its seat back then. */
  private static final class Mending {
    private final Seating seating;
    private final Table guests;

    Mending(Seating seating) {
      this.seating = seating;
      guests = seating.guests;
    }

    int fewest() {
      if (seating.breaches() == 0) {
        return 0;
      }
      for (int guest = 0; guest < guests.count; guest++) {
        if (seating.sits(guest) && areEnough(guest, guest)) {
          return 1;
        }
      }
      for (int one = 0; one < guests.count; one++) {
        for (int other = one + 1; other < guests.count; other++) {
          if (seating.sits(one) && seating.sits(other) && areEnough(one, other)) {
            return 2;
          }
        }
      }
      return 3;
    }

    /** Whether the seating can be lawful as two guests go (or one, told twice). */
    private boolean areEnough(int one, int other) {
      int home = guests.get(one, SEAT);
      int otherHome = guests.get(other, SEAT);
      guests.set(one, SEAT, NONE);
      guests.set(other, SEAT, NONE);
      boolean isLawful = false;
      boolean areOthersLawful = seating.breaches() == 0;
      for (int seat = 0; areOthersLawful && !isLawful && seat < seating.cabin.seats(); seat++) {
        if (seating.isFree(seat)) {
          guests.set(one, SEAT, seat);
          isLawful = seating.breachesOf(one, 0) == 0 && (one == other || isSeatFor(other));
        }
      }
      guests.set(one, SEAT, home);
      guests.set(other, SEAT, otherHome);
      return isLawful;
    }

    private boolean isSeatFor(int guest) {
      boolean isFound = false;
      for (int seat = 0; !isFound && seat < seating.cabin.seats(); seat++) {
        if (seating.isFree(seat)) {
          guests.set(guest, SEAT, seat);
          isFound = seating.breachesOf(guest, 0) == 0;
        }
      }
      guests.set(guest, SEAT, NONE);
      return isFound;
    }
  }

  /** The stops, and the plan of the day, which is made anew with each change. */
  private static final class Road {
    static final int DRIVE = 0;
    static final int STAY = 1;
    static final int LATEST = 2;
    static final int MILES = 3;
    static final int DELAY = 4;
    // The columns of the plan; ofStop() asks for them by these numbers.
    static final int ARRIVAL = 0;
    static final int CUT = 1;
    static final int LEAVES = 2;
    static final int BREAKS = 3;
    static final int DRIVEN = 4;
    static final int WIDTH = 5;

    private static final int MOST_DRIVEN = 540;
    private static final int BETWEEN_BREAKS = 270;
    private static final int BREAK = 45;

    final Table stops = new Table(MOST_STOPS, WIDTH);
    final Table plan = new Table(MOST_STOPS, WIDTH);
    int start = 480;
    int arrivals;
    private int clock;
    private int driven;
    private int sinceBreak;

    int addStop(int drive, int stay, int latest, int miles) {
      int stop = stops.count;
      stops.count = stop + 1;
      stops.set(stop, DRIVE, drive);
      stops.set(stop, STAY, stay);
      stops.set(stop, LATEST, latest);
      stops.set(stop, MILES, miles);
      makePlan();
      return stop;
    }

    void setStart(int minute) {
      start = minute;
      makePlan();
    }

    void setDelay(int stop, int minutes) {
      stops.set(stop, DELAY, minutes);
      makePlan();
    }

    void clearDelays() {
      for (int stop = 0; stop < stops.count; stop++) {
        stops.set(stop, DELAY, 0);
      }
      makePlan();
    }

    int stayAt(int stop) {
      return plan.get(stop, LEAVES) - plan.get(stop, ARRIVAL);
    }

    int end() {
      return arrivals == 0 ? start : plan.get(arrivals - 1, LEAVES);
    }

    boolean isInOrder() {
      int left = start;
      for (int stop = 0; stop < arrivals; stop++) {
        if (plan.get(stop, ARRIVAL) < left) {
          return false;
        }
        left = plan.get(stop, LEAVES);
      }
      return true;
    }

    private void makePlan() {
      clock = start;
      driven = 0;
      sinceBreak = 0;
      arrivals = 0;
      boolean isStuck = false;
      for (int stop = 0; stop < stops.count; stop++) {
        int way = stops.get(stop, DRIVE) + stops.get(stop, DELAY);
        isStuck = isStuck || driven + way > MOST_DRIVEN;
        if (isStuck) {
          planNothing(stop);
        } else {
          planStop(stop, way);
        }
      }
    }

    private void planNothing(int stop) {
      plan.set(stop, ARRIVAL, NONE);
      plan.set(stop, CUT, 0);
      plan.set(stop, LEAVES, NONE);
      plan.set(stop, BREAKS, NONE);
      plan.set(stop, DRIVEN, NONE);
    }

    private void planStop(int stop, int way) {
      plan.set(stop, BREAKS, driveWay(way));
      plan.set(stop, ARRIVAL, clock);
      plan.set(stop, DRIVEN, driven);
      boolean isCut = clock > stops.get(stop, LATEST);
      plan.set(stop, CUT, isCut ? 1 : 0);
      int stay = isCut ? 0 : stops.get(stop, STAY);
      clock += stay;
      plan.set(stop, LEAVES, clock);
      if (stay >= BREAK) {
        sinceBreak = 0;
      }
      arrivals++;
    }

    /** Drives a way; how many breaks were made on it. A break is made only if a minute behind it is driven. */
    private int driveWay(int way) {
      int since = sinceBreak + way;
      int breaks = Math.max(0, since - 1) / BETWEEN_BREAKS;
      clock += way + breaks * BREAK;
      driven += way;
      sinceBreak = since - breaks * BETWEEN_BREAKS;
      return breaks;
    }
  }

  /** The best rooms for each set of guests, a set's number being its row. */
  private static final class Nights {
    static final int COST = 0;
    static final int GROUPS = 1;

    private final Ties ties;
    final Table best = new Table(1 << MOST_GUESTS, 2);
    int costOfOne = 60;
    int costOfTwo = 90;
    int costOfThree = 120;

    Nights(Seating seating) {
      ties = seating.ties;
    }

    // The sets inside a set are smaller numbers, so they are parted ahead of it.
    void partAll(int all) {
      for (int set = 1; set <= all; set++) {
        if ((set & ~all) == 0) {
          part(set);
        }
      }
    }

    /** Tries each group for the first guest of a set, beside the best rooms of the others. */
    private void part(int set) {
      int first = 0;
      while (first < MOST_GUESTS && !isIn(set, first)) {
        first++;
      }
      int others = set & ~(1 << first);
      best.set(set, COST, best.get(others, COST) + costOfOne);
      best.set(set, GROUPS, best.get(others, GROUPS) + 1);
      for (int second = first + 1; second < MOST_GUESTS; second++) {
        if (isIn(others, second) && mayShare(first, second)) {
          int fewer = others & ~(1 << second);
          int bond = ties.bonds.get(first, second);
          offer(set, fewer, costOfTwo - bond);
          for (int third = second + 1; third < MOST_GUESTS; third++) {
            if (isIn(others, third) && mayShare(first, third) && mayShare(second, third)) {
              int bonds = bond + ties.bonds.get(first, third) + ties.bonds.get(second, third);
              offer(set, fewer & ~(1 << third), costOfThree - bonds);
            }
          }
        }
      }
    }

    private boolean mayShare(int one, int other) {
      return ties.laws.get(one, other) != NEVER;
    }

    /** Takes a group of this cost beside the best rooms of the others, if that is better. */
    private void offer(int set, int others, int groupCost) {
      int cost = best.get(others, COST) + groupCost;
      int groups = best.get(others, GROUPS) + 1;
      int bestCost = best.get(set, COST);
      if (cost < bestCost || cost == bestCost && groups < best.get(set, GROUPS)) {
        best.set(set, COST, cost);
        best.set(set, GROUPS, groups);
      }
    }
  }

  /** The two small coaches; a parting is told by the set in the first one. */
  private static final class Halves {
    private final Ties ties;

    Halves(Seating seating) {
      ties = seating.ties;
    }

    int bestFirst(int all, int seats) {
      int smallest = all & -all;
      int best = NONE;
      int least = 0;
      for (int first = smallest; first <= all; first++) {
        boolean isParting = (first & ~all) == 0 && (first & smallest) != 0;
        if (isParting && fits(first, seats) && fits(all & ~first, seats) && isAllowed(first, all)) {
          int loss = loss(first, all);
          if (best == NONE || loss < least) {
            best = first;
            least = loss;
          }
        }
      }
      return best;
    }

    private static boolean fits(int set, int seats) {
      return Integer.bitCount(set) <= seats;
    }

    private boolean isAllowed(int first, int all) {
      for (int one = 0; one < MOST_GUESTS; one++) {
        for (int other = one + 1; other < MOST_GUESTS; other++) {
          int law = isIn(all, one) && isIn(all, other) ? ties.laws.get(one, other) : 0;
          boolean isParted = isIn(first, one) != isIn(first, other);
          if (law == MUST && isParted || law == NEVER && !isParted) {
            return false;
          }
        }
      }
      return true;
    }

    int loss(int first, int all) {
      int sum = 0;
      for (int one = 0; one < MOST_GUESTS; one++) {
        for (int other = 0; other < MOST_GUESTS; other++) {
          if (isIn(first, one) && isIn(all & ~first, other)) {
            sum += ties.bonds.get(one, other);
          }
        }
      }
      return sum;
    }
  }
}
