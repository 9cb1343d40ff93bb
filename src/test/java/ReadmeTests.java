/** The answers that README.md tells behind the calls of its example; it has to follow when that is changed. */
public final class ReadmeTests {
  public static void main(String[] args) {
    Coachparty tour = new Coachparty();
    int anna = tour.guest(4, 6, 4, 0);
    int bert = tour.guest(0, 9, 4, 0);
    int carl = tour.guest(0, 0, 1, 1);
    tour.pair(anna, bert, 7, 1);
    tour.pair(bert, carl, -5, 2);
    tour.stop(30, 15, 2000, 40);
    tour.stop(250, 20, 2000, 200);
    Check.due("a deposit", tour.pay(anna, true), 40);
    Check.due("all come", tour.drive(), 3);
    Check.due("the first seats", tour.row(0), "0 1|2 .");
    Check.due("cost", tour.tour(6), 109);
    Check.due("asked", tour.asked(), 1);
    Check.due("would", tour.would(bert, 4), -115);
    Check.due("settle", tour.settle(), 2);
    Check.due("row 0", tour.row(0), "0 .|. 2");
    Check.due("row 1", tour.row(1), "1 .|. .");
    Check.due("cost then", tour.tour(6), -7);
    Check.due("arrival", tour.ofStop(1, 0), 820);
    Check.due("rooms", tour.rooms(false), 143);
    Check.due("the first set", tour.split(2, true), 3);
    Check.thrown("the coach is too small", tour, Check.ARGUMENT, () -> tour.coach(1, 0));
    Check.end();
  }
}
