/** Promises 19, 20, 22 to 29 and 31: how an item goes on, its proofs, and the days. */
final class DayTest {
  private DayTest() {
  }

  static void run() {
    plainWay();
    proofQueries();
    goOn();
    weekDays();
    room();
    roomByRoads();
    withoutWay();
    newWayWhileGoing();
    urgentLate();
    atOffice();
    queriesRefused();
  }

  private static void plainWay() {
    PostRoads x = Realms.offices(0, 0, 0);
    x.road(0, 1, 2, 127, 5);
    x.road(1, 2, 1, 127, 5);
    x.person(0);
    x.person(2);
    Realms.letter(x, 0, 1, 2);
    x.post(0, 1, 2, 1, 0, 0, 999);
    String[] due = {"r100", "r100", "r101", "v201", "v201"};
    for (int i = 0; i < due.length; i++) {
      Check.same("handed over on day " + (i + 1), x.goOn(1), i == 3 ? 2 : 0);
      Check.same("a letter on day " + (i + 1), Check.whereabouts(x, 0), due[i]);
      Check.same("isProved on day " + (i + 1), x.isProved(), true);
    }
    Check.same("its proofs", Check.proofs(x, 0), "a0@0 d100@1 r1@3 d101@3 r2@4 v201@4");
    Check.same("proofs of one that is not registered", Check.proofs(x, 1), "a0@0 v201@4");
  }

  private static void proofQueries() {
    PostRoads x = Realms.peopled(0, 0);
    Realms.letter(x, 0, 1, 1);
    x.goOn(1);
    Check.same("number of proofs", x.proofs(0), 2);
    Check.same("kind of the last", x.proofAt(0, 1), 'd');
    Check.same("place of the last", x.proofPlace(0, 1), 100);
    Check.same("day of the last", x.proofDay(0, 1), 1);
    for (int index : new int[] {-1, 2, 8, Integer.MAX_VALUE, Integer.MIN_VALUE}) {
      Class<java.util.NoSuchElementException> due = java.util.NoSuchElementException.class;
      Check.refuses(x, due, "proofAt(0, " + index + ")", () -> x.proofAt(0, index));
      Check.refuses(x, due, "proofPlace(0, " + index + ")", () -> x.proofPlace(0, index));
      Check.refuses(x, due, "proofDay(0, " + index + ")", () -> x.proofDay(0, index));
    }
    Check.refuses(x, IndexOutOfBoundsException.class, "proofAt(1, 9)", () -> x.proofAt(1, 9));
    Check.refuses(x, IndexOutOfBoundsException.class, "proofPlace(-1, 9)", () -> x.proofPlace(-1, 9));
    Check.refuses(x, IndexOutOfBoundsException.class, "proofDay(1, -1)", () -> x.proofDay(1, -1));
    Check.refuses(x, IndexOutOfBoundsException.class, "proofs(1)", () -> x.proofs(1));
    Check.refuses(x, IndexOutOfBoundsException.class, "proofs(-1)", () -> x.proofs(-1));
  }

  private static void goOn() {
    PostRoads x = Realms.peopled(0, 0);
    for (int days : new int[] {0, 21, -1, Integer.MIN_VALUE, Integer.MAX_VALUE}) {
      Check.refuses(x, IllegalArgumentException.class, "goOn(" + days + ")", () -> x.goOn(days));
    }
    Realms.letter(x, 0, 1, 1);
    x.post(0, 1, 1, 1, 0, 0, 0);
    Check.same("goOn(20) hands over to addressee and sender", x.goOn(20), 2);
    Check.same("day behind it", x.day(), 20);
    Check.same("goOn(1)", x.goOn(1), 0);
    Check.same("day behind that", x.day(), 21);
  }

  private static void weekDays() {
    PostRoads x = Realms.offices(0, 0, 0);
    x.road(0, 1, 1, 1 << 3, 1);
    x.road(0, 2, 1, 1 | 1 << 6, 1);
    x.person(0);
    x.person(1);
    x.person(2);
    Realms.letter(x, 0, 1, 1);
    Realms.letter(x, 0, 2, 2);
    x.goOn(2);
    Check.same("neither starts by day 2", x.at(0), 2);
    x.goOn(1);
    Check.same("day 3 has come", Check.whereabouts(x, 0), "r100");
    x.goOn(2);
    Check.same("day 5 is none of 0 and 6", Check.whereabouts(x, 1), "o0");
    x.goOn(1);
    Check.same("day 6", Check.whereabouts(x, 1), "r101");
    Realms.letter(x, 0, 2, 2);
    x.goOn(1);
    Check.same("day 7 is 0 of the week", Check.whereabouts(x, 2), "r101");
    Realms.letter(x, 0, 1, 1);
    x.goOn(2);
    Check.same("day 9 is 2 of the week", Check.whereabouts(x, 3), "o0");
    x.goOn(1);
    Check.same("day 10 is 3 of the week", Check.whereabouts(x, 3), "r100");
    Check.same("never left back", x.leftBack(3), 0);
  }

  private static void room() {
    PostRoads x = Realms.offices(0, 0);
    x.road(0, 1, 1, 127, 2);
    x.person(0);
    x.person(1);
    x.post(0, 1, 1, 1, 1, 0, 999);
    x.post(0, 1, 1, 1, 0, 0, 999);
    x.post(0, 1, 1, 1, 1, 0, 999);
    x.post(0, 1, 1, 1, 0, 0, 999);
    x.post(0, 1, 1, 1, 0, 0, 999);
    x.goOn(1);
    Check.same("the urgent ones go first, by numbers", states(x), "ororo");
    Check.same("the others are left back", leftBacks(x), "1 0 1 0 1 ");
    x.goOn(1);
    Check.same("the last urgent one and the first other", states(x), "rvovr");
    Check.same("one is left back again", leftBacks(x), "1 0 2 0 1 ");
    x.goOn(1);
    Check.same("then the last", states(x), "vvrvv");
    Check.same("not left back any more", leftBacks(x), "1 0 2 0 1 ");
  }

  private static void roomByRoads() {
    PostRoads x = Realms.offices(0, 0, 0);
    x.road(0, 1, 1, 127, 1);
    x.road(0, 2, 1, 127, 1);
    x.person(0);
    x.person(1);
    x.person(2);
    x.post(0, 1, 1, 1, 1, 0, 999);
    x.post(0, 2, 2, 1, 1, 0, 999);
    x.post(0, 1, 1, 1, 1, 0, 999);
    x.goOn(1);
    Check.same("each road has its own room", states(x), "rro");
    Check.same("left back by the full one", leftBacks(x), "0 0 1 ");
  }

  private static void withoutWay() {
    PostRoads x = Realms.offices(0, 0);
    x.person(0);
    x.person(1);
    Realms.letter(x, 0, 1, 1);
    x.goOn(20);
    Check.same("one without a way waits", Check.whereabouts(x, 0), "o0");
    Check.same("and is not left back", x.leftBack(0), 0);
    Check.same("nor proved again", Check.proofs(x, 0), "a0@0");
    x.road(0, 1, 1, 127, 1);
    x.goOn(1);
    Check.same("a way is built", Check.whereabouts(x, 0), "r100");
  }

  private static void newWayWhileGoing() {
    PostRoads x = Realms.offices(0, 0, 0, 0);
    x.road(0, 1, 2, 127, 5);
    x.road(1, 3, 5, 127, 5);
    x.person(0);
    x.person(3);
    Realms.letter(x, 0, 1, 3);
    x.goOn(1);
    x.road(1, 2, 1, 127, 5);
    x.road(2, 3, 1, 127, 5);
    x.goOn(4);
    Check.same("the way is found anew at each office", Check.proofs(x, 0),
        "a0@0 d100@1 r1@3 d102@3 r2@4 d103@4 r3@5 v201@5");
  }

  private static void urgentLate() {
    PostRoads x = Realms.offices(0, 0);
    x.road(0, 1, 1, 127, 1);
    x.person(0);
    x.person(1);
    x.post(0, 1, 1, 1, 1, 0, 999);
    for (int i = 1; i < 4; i++) {
      x.post(0, 1, 1, 1, 4, 0, 999);
      x.goOn(1);
      Check.same("an urgent one with something forbidden is urgent", x.state(i), 'r');
    }
    Check.same("left back by later ones that are urgent", x.leftBack(0), 3);
  }

  private static void atOffice() {
    PostRoads x = Realms.peopled(0, 1);
    Check.same("none at the office", x.at(0), 0);
    x.post(0, 1, 1, 1, 4, 0, 999);
    x.post(0, 1, 1, 1, 0, 0, 0);
    x.post(0, 1, 1, 1, 0, 0, 999);
    Check.same("three at the office", x.at(0), 3);
    x.lose(2);
    Check.same("a lost one is not", x.at(0), 2);
    x.goOn(1);
    Check.same("on roads they are not", x.at(0), 0);
    x.goOn(1);
    Check.same("at customs and waiting", "" + x.state(0) + x.state(1), "cw");
    Check.same("both are counted", x.at(1), 2);
    x.pay(1);
    x.goOn(1);
    Check.same("one that is handed over is not", x.at(1), 1);
    Check.refuses(x, IndexOutOfBoundsException.class, "at(-1)", () -> x.at(-1));
    Check.refuses(x, IndexOutOfBoundsException.class, "at(2)", () -> x.at(2));
  }

  private static void queriesRefused() {
    PostRoads x = Realms.peopled(0, 1);
    Realms.letter(x, 0, 1, 1);
    for (int item : new int[] {-1, 1, 60, Integer.MAX_VALUE, Integer.MIN_VALUE}) {
      Check.refuses(x, IndexOutOfBoundsException.class, "state(" + item + ")", () -> x.state(item));
      Check.refuses(x, IndexOutOfBoundsException.class, "place(" + item + ")", () -> x.place(item));
      Check.refuses(x, IndexOutOfBoundsException.class, "leftBack(" + item + ")", () -> x.leftBack(item));
    }
  }

  private static String states(PostRoads x) {
    StringBuilder text = new StringBuilder();
    for (int i = 0; i < 60; i++) {
      int item = i;
      Object state = Check.outcome(() -> x.state(item));
      text.append(state instanceof Character ? state : "");
    }
    return text.toString();
  }

  private static String leftBacks(PostRoads x) {
    StringBuilder text = new StringBuilder();
    for (int i = 0; i < states(x).length(); i++) {
      text.append(x.leftBack(i)).append(' ');
    }
    return text.toString();
  }
}
