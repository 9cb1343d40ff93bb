import java.util.ArrayList;
import java.util.List;

/**
 * The document once more, as slowly and as literally as it can be told: the driver drives minute by minute, all
 * partings and all seatings are tried. The class is compared with it.
 */
final class Model {
  static final class Guest {
    int sick, wish, row, village, state, seat = -1, turns, paid, late;
    boolean wantedSeat;
    final int[] bond = new int[10];
    final int[] law = new int[10];
    final int[] quarrels = new int[10];
  }

  static final class Stop {
    int drive, stay, latest, miles, delay;
    int arrival, leaves, breaks, driven;
    boolean cut;
  }

  final List<Guest> guests = new ArrayList<>();
  final List<Stop> stops = new ArrayList<>();
  final boolean[] isOut = new boolean[20];
  int rows = 4, axle = 1, begin = 480, day, single = 60, twice = 90, triple = 120, price = 200, takings;

  private static void argument(boolean isFine) {
    if (!isFine) throw new IllegalArgumentException();
  }

  private static void state(boolean isFine) {
    if (!isFine) throw new IllegalStateException();
  }

  private static void index(boolean isFine) {
    if (!isFine) throw new IndexOutOfBoundsException();
  }

  private static boolean in(int value, int least, int most) {
    return least <= value && value <= most;
  }

  private Guest need(int guest) {
    index(in(guest, 0, guests.size() - 1));
    return guests.get(guest);
  }

  private void needSeat(int seat) {
    index(in(seat, 0, rows * 4 - 1));
  }

  private List<Guest> aboard() {
    List<Guest> all = new ArrayList<>();
    for (Guest g : guests) if (g.state == 1) all.add(g);
    return all;
  }

  private Guest sitter(int seat) {
    for (Guest g : guests) if (g.state == 1 && g.seat == seat) return g;
    return null;
  }

  private static boolean window(int seat) {
    return seat % 4 == 0 || seat % 4 == 3;
  }

  private static int apart(int a, int b) {
    return Math.abs(a / 4 - b / 4) + Math.abs(a % 4 - b % 4);
  }

  private int owed(Guest g) {
    int most = 0;
    for (Guest h : aboard()) most = Math.max(most, h.turns);
    return most - g.turns;
  }

  int breaches() {
    int count = 0;
    for (Guest g : aboard()) {
      if (g.seat / 4 > g.row) count++;
      for (Guest h : aboard()) {
        if (guests.indexOf(h) <= guests.indexOf(g)) continue;
        int law = g.law[guests.indexOf(h)];
        int apart = apart(g.seat, h.seat);
        if (law == 1 && apart != 1) count++;
        if (law == 2 && !(apart >= 3)) count++;
      }
    }
    return count;
  }

  int cost() {
    int sum = 100 * breaches();
    for (Guest g : aboard()) {
      int behind = g.seat / 4 - axle;
      if (behind > 0) sum += g.sick * behind;
      if (!window(g.seat)) sum += g.wish + owed(g);
      for (Guest h : aboard()) {
        if (guests.indexOf(h) > guests.indexOf(g) && apart(g.seat, h.seat) == 1) sum -= g.bond[guests.indexOf(h)];
      }
    }
    return sum;
  }

  private void swap(Guest g, int seat) {
    Guest h = sitter(seat);
    if (h != null) h.seat = g.seat;
    g.seat = seat;
  }

  int coach(int rows, int axle) {
    argument(in(rows, 2, 5) && in(axle, 0, 4));
    for (Guest g : aboard()) state(g.seat < rows * 4);
    this.rows = rows;
    this.axle = axle;
    return rows * 4;
  }

  int out(int seat, boolean isOut) {
    needSeat(seat);
    state(sitter(seat) == null);
    this.isOut[seat] = isOut;
    return outs();
  }

  private int outs() {
    int count = 0;
    for (int seat = 0; seat < rows * 4; seat++) if (isOut[seat]) count++;
    return count;
  }

  int guest(int sick, int wish, int row, int village) {
    argument(in(sick, 0, 9) && in(wish, 0, 9) && in(row, 0, 4) && in(village, 0, 7));
    state(guests.size() < 10);
    Guest g = new Guest();
    g.sick = sick;
    g.wish = wish;
    g.row = row;
    g.village = village;
    guests.add(g);
    return guests.size() - 1;
  }

  int pair(int one, int other, int bond, int law) {
    Guest g = need(one);
    Guest h = need(other);
    argument(one != other && in(bond, -9, 9) && in(law, 0, 2));
    int before = g.bond[other];
    g.bond[other] = bond;
    h.bond[one] = bond;
    g.law[other] = law;
    h.law[one] = law;
    return before;
  }

  private Guest needMove(int guest, int seat) {
    Guest g = need(guest);
    needSeat(seat);
    state(g.state == 1 && !isOut[seat]);
    return g;
  }

  int move(int guest, int seat) {
    swap(needMove(guest, seat), seat);
    return cost();
  }

  int would(int guest, int seat) {
    Guest g = needMove(guest, seat);
    int home = g.seat;
    int before = cost();
    swap(g, seat);
    int after = cost();
    swap(g, home);
    return after - before;
  }

  int settle() {
    for (int moves = 0; ; moves++) {
      int bestGuest = -1;
      int bestSeat = -1;
      int best = 0;
      for (int g = 0; g < guests.size(); g++) {
        if (guests.get(g).state != 1) continue;
        for (int seat = 0; seat < rows * 4; seat++) {
          if (isOut[seat] || would(g, seat) >= best) continue;
          best = would(g, seat);
          bestGuest = g;
          bestSeat = seat;
        }
      }
      if (bestGuest < 0) return moves;
      swap(guests.get(bestGuest), bestSeat);
    }
  }

  int seat(int guest, int seat) {
    Guest g = need(guest);
    needSeat(seat);
    state(g.state == 0 && !isOut[seat] && sitter(seat) == null);
    g.state = 1;
    g.seat = seat;
    return aboard().size();
  }

  int stop(int drive, int stay, int latest, int miles) {
    argument(in(drive, 0, 600) && in(miles, 0, 600) && in(stay, 0, 300) && in(latest, 0, 2000));
    state(stops.size() < 8);
    Stop s = new Stop();
    s.drive = drive;
    s.stay = stay;
    s.latest = latest;
    s.miles = miles;
    stops.add(s);
    return stops.size() - 1;
  }

  private void plan() {
    int clock = begin;
    int driven = 0;
    int since = 0;
    boolean isStuck = false;
    for (Stop s : stops) {
      int way = s.drive + s.delay;
      if (driven + way > 540) isStuck = true;
      s.arrival = s.leaves = s.breaks = s.driven = -1;
      s.cut = false;
      if (isStuck) continue;
      s.breaks = 0;
      for (int minute = 0; minute < way; minute++) {
        if (since == 270) {
          clock += 45;
          since = 0;
          s.breaks++;
        }
        clock++;
        since++;
        driven++;
      }
      s.arrival = clock;
      s.driven = driven;
      s.cut = clock > s.latest;
      if (!s.cut) {
        clock += s.stay;
        if (s.stay >= 45) since = 0;
      }
      s.leaves = clock;
    }
  }

  int begin(int minute) {
    argument(in(minute, 0, 1439));
    int before = begin;
    begin = minute;
    return before;
  }

  int delay(int stop, int minutes) {
    index(in(stop, 0, stops.size() - 1));
    argument(in(minutes, 0, 300));
    int before = stops.get(stop).delay;
    stops.get(stop).delay = minutes;
    return before;
  }

  int late(int guest, int minutes) {
    Guest g = need(guest);
    argument(in(minutes, 0, 60));
    int before = g.late;
    g.late = minutes;
    return before;
  }

  int drive() {
    state(day < 60 && !stops.isEmpty());
    plan();
    int came = 0;
    for (int k = 0; k < stops.size(); k++) {
      Stop s = stops.get(k);
      if (s.arrival < 0) break;
      for (Guest g : aboard()) {
        for (Guest h : aboard()) {
          int bond = g.bond[guests.indexOf(h)];
          if (g != h && apart(g.seat, h.seat) == 1 && bond < 0) g.quarrels[guests.indexOf(h)] += -bond * s.miles / 100;
        }
      }
      for (Guest g : guests) {
        if (g.state != 0 || g.village != k) continue;
        if (g.late > (s.cut ? 0 : s.stay)) {
          g.state = 2;
          continue;
        }
        for (int seat = 0; seat < rows * 4 && g.state == 0; seat++) {
          if (isOut[seat] || sitter(seat) != null) continue;
          g.state = 1;
          g.seat = seat;
          came++;
        }
        if (g.state == 0) {
          g.state = 2;
          g.wantedSeat = true;
        }
      }
    }
    for (Guest g : aboard()) if (window(g.seat)) g.turns++;
    for (Guest g : guests) g.late = 0;
    for (Stop s : stops) s.delay = 0;
    day++;
    return came;
  }

  int rates(int single, int twice, int triple) {
    argument(in(single, 0, 300) && in(twice, 0, 300) && in(triple, 0, 300));
    int before = this.twice;
    this.single = single;
    this.twice = twice;
    this.triple = triple;
    return before;
  }

  int price(int price) {
    argument(in(price, 0, 999));
    int before = this.price;
    this.price = price;
    return before;
  }

  int pay(int guest, boolean isDeposit) {
    Guest g = need(guest);
    state(g.state != 3);
    int due = isDeposit ? price / 5 : price;
    int now = due > g.paid ? due - g.paid : 0;
    g.paid += now;
    takings += now;
    return now;
  }

  int cancel(int guest) {
    Guest g = need(guest);
    state(g.state == 0 || g.state == 2);
    int back;
    if (day == 0) back = g.paid;
    else if (g.state == 0) back = g.paid / 2;
    else if (g.wantedSeat) back = Math.min(g.paid, 20);
    else back = 0;
    g.paid -= back;
    takings -= back;
    g.state = 3;
    return back;
  }

  int ofGuest(int guest, int what) {
    Guest g = need(guest);
    argument(in(what, 0, 10));
    int quarrels = 0;
    for (int q : g.quarrels) quarrels += q;
    int[] all = {g.sick, g.wish, g.row, g.village, g.state, g.seat, g.turns, g.state == 1 ? owed(g) : 0, g.paid,
        quarrels, g.wantedSeat ? 1 : 0};
    return all[what];
  }

  int ofSeat(int seat, int what) {
    needSeat(seat);
    argument(in(what, 0, 2));
    int[] all = {guests.indexOf(sitter(seat)), isOut[seat] ? 1 : 0, window(seat) ? 1 : 0};
    return all[what];
  }

  int ofPair(int one, int other, int what) {
    Guest g = need(one);
    Guest h = need(other);
    argument(in(what, 0, 3));
    int apart = g.state == 1 && h.state == 1 ? apart(g.seat, h.seat) : -1;
    int[] all = {g.bond[other], g.law[other], apart, g.quarrels[other]};
    return all[what];
  }

  int ofStop(int stop, int what) {
    index(in(stop, 0, stops.size() - 1));
    argument(in(what, 0, 4));
    plan();
    Stop s = stops.get(stop);
    int[] all = {s.arrival, s.cut ? 1 : 0, s.leaves, s.breaks, s.driven};
    return all[what];
  }

  int tour(int what) {
    argument(in(what, 0, 12));
    plan();
    int[] states = new int[4];
    int quarrels = 0;
    for (Guest g : guests) {
      states[g.state]++;
      for (int q : g.quarrels) quarrels += q;
    }
    int arrivals = 0;
    int end = begin;
    for (Stop s : stops) {
      if (s.arrival < 0) continue;
      arrivals++;
      end = s.leaves;
    }
    int[] all = {day, rows * 4 - outs(), guests.size(), states[1], states[2], states[3], cost(), breaches(),
        quarrels / 2, takings, stops.size(), arrivals, end};
    return all[what];
  }

  String row(int row) {
    index(in(row, 0, rows - 1));
    String[] signs = new String[4];
    for (int column = 0; column < 4; column++) {
      int seat = 4 * row + column;
      signs[column] = isOut[seat] ? "x" : sitter(seat) == null ? "." : "" + guests.indexOf(sitter(seat));
    }
    return signs[0] + " " + signs[1] + "|" + signs[2] + " " + signs[3];
  }

  int asked() {
    if (breaches() == 0) return 0;
    List<Guest> all = aboard();
    for (Guest g : all) if (canMend(g, null)) return 1;
    for (Guest g : all) for (Guest h : all) if (g != h && canMend(g, h)) return 2;
    return 3;
  }

  private boolean canMend(Guest g, Guest h) {
    int home = g.seat;
    int otherHome = h == null ? -1 : h.seat;
    boolean can = false;
    for (int a = 0; a < rows * 4 && !can; a++) {
      for (int b = 0; b < (h == null ? 1 : rows * 4) && !can; b++) {
        g.seat = a;
        if (h != null) h.seat = b;
        boolean isSeating = !isOut[a] && (h == null || !isOut[b]);
        for (Guest one : aboard()) {
          for (Guest other : aboard()) if (one != other && one.seat == other.seat) isSeating = false;
        }
        can = isSeating && breaches() == 0;
      }
    }
    g.seat = home;
    if (h != null) h.seat = otherHome;
    return can;
  }

  private int bestCost;
  private int bestGroups;

  int rooms(boolean isMany) {
    bestGroups = -1;
    part(aboard(), 0, new ArrayList<>());
    return isMany ? bestGroups : bestCost;
  }

  private void part(List<Guest> all, int next, List<List<Guest>> groups) {
    if (next == all.size()) {
      int cost = 0;
      for (List<Guest> group : groups) cost += group.size() == 1 ? single : group.size() == 2 ? twice : triple;
      for (List<Guest> group : groups) {
        for (Guest g : group) {
          for (Guest h : group) if (guests.indexOf(g) < guests.indexOf(h)) cost -= g.bond[guests.indexOf(h)];
        }
      }
      if (bestGroups < 0 || cost < bestCost || cost == bestCost && groups.size() < bestGroups) {
        bestCost = cost;
        bestGroups = groups.size();
      }
      return;
    }
    Guest g = all.get(next);
    for (int k = 0; k < groups.size(); k++) {
      List<Guest> group = groups.get(k);
      boolean may = group.size() < 3;
      for (Guest h : group) if (g.law[guests.indexOf(h)] == 2) may = false;
      if (!may) continue;
      group.add(g);
      part(all, next + 1, groups);
      group.remove(group.size() - 1);
    }
    List<Guest> alone = new ArrayList<>();
    alone.add(g);
    groups.add(alone);
    part(all, next + 1, groups);
    groups.remove(groups.size() - 1);
  }

  int split(int seats, boolean isSet) {
    argument(in(seats, 1, 12));
    if (aboard().isEmpty()) return 0;
    int bestSet = -1;
    int bestLoss = -999;
    for (int set = 1; set < 1024; set++) {
      boolean may = (set >> guests.indexOf(aboard().get(0)) & 1) == 1;
      int loss = 0;
      int size = 0;
      for (int g = 0; g < 10; g++) {
        if ((set >> g & 1) == 0) continue;
        size++;
        if (g >= guests.size() || guests.get(g).state != 1) may = false;
      }
      if (!may || size > seats || aboard().size() - size > seats) continue;
      for (Guest g : aboard()) {
        for (Guest h : aboard()) {
          int other = guests.indexOf(h);
          if (guests.indexOf(g) >= other) continue;
          boolean parted = (set >> guests.indexOf(g) & 1) != (set >> other & 1);
          if (g.law[other] == 1 && parted || g.law[other] == 2 && !parted) may = false;
          if (parted) loss += g.bond[other];
        }
      }
      if (may && (bestSet < 0 || loss < bestLoss)) {
        bestSet = set;
        bestLoss = loss;
      }
    }
    return isSet ? bestSet : bestLoss;
  }

  boolean isSound() {
    return true;
  }

  long digest() {
    List<Integer> all = new ArrayList<>();
    for (int what = 0; what <= 12; what++) all.add(tour(what));
    for (int g = 0; g < guests.size(); g++) for (int what = 4; what <= 10; what++) all.add(ofGuest(g, what));
    for (int seat = 0; seat < rows * 4; seat++) all.add(ofSeat(seat, 0));
    for (int stop = 0; stop < stops.size(); stop++) for (int what = 0; what <= 4; what++) all.add(ofStop(stop, what));
    for (int one = 0; one < guests.size(); one++) {
      for (int other = one + 1; other < guests.size(); other++) {
        all.add(ofPair(one, other, 2));
        all.add(ofPair(one, other, 3));
      }
    }
    all.add(asked());
    all.add(rooms(true));
    all.add(rooms(false));
    all.add(split(4, true));
    all.add(split(4, false));
    all.add(isSound() ? 1 : 0);
    long d = 4517;
    for (int v : all) d = d * 31 + v;
    return d;
  }
}
