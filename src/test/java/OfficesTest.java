import java.util.NoSuchElementException;

/** Promises 1 to 4, 6 and 7: a new object, offices, roads, bars and ways. */
final class OfficesTest {
  private OfficesTest() {
  }

  static void run() {
    newObject();
    office();
    road();
    roadLimit();
    bar();
    ways();
    tiedWays();
  }

  private static void newObject() {
    PostRoads x = new PostRoads();
    Check.same("day of a new realm", x.day(), 0);
    Check.same("balances of a new realm", Check.balances(x), "0 0 0");
    Check.refuses(x, IndexOutOfBoundsException.class, "at(0) without offices", () -> x.at(0));
    Check.refuses(x, IndexOutOfBoundsException.class, "person(0) without offices", () -> x.person(0));
    Check.same("isProved of a new realm", x.isProved(), true);
  }

  private static void office() {
    PostRoads x = new PostRoads();
    Check.refuses(x, IllegalArgumentException.class, "office(-1)", () -> x.office(-1));
    Check.refuses(x, IllegalArgumentException.class, "office(3)", () -> x.office(3));
    for (int i = 0; i < 10; i++) {
      int made = i;
      Check.same("office " + i, x.office(i % 3), i);
      Check.same("days to itself without roads", x.days(i, i), 0);
      Check.refuses(x, NoSuchElementException.class, "no road to itself", () -> x.firstRoad(made, made));
    }
    Check.refuses(x, IllegalStateException.class, "an 11th office", () -> x.office(0));
    Check.refuses(x, IllegalArgumentException.class, "an 11th office of no post", () -> x.office(3));
    PostRoads y = Realms.line(0, 0);
    y.close(1);
    for (int i = 2; i < 10; i++) {
      Check.same("office behind a closed one", y.office(0), i);
    }
    Check.refuses(y, IllegalStateException.class, "closed offices count", () -> y.office(0));
  }

  private static void road() {
    PostRoads x = Realms.offices(0, 1, 2);
    Check.refuses(x, IndexOutOfBoundsException.class, "road from -1", () -> x.road(-1, 0, 1, 1, 1));
    Check.refuses(x, IndexOutOfBoundsException.class, "road to 3", () -> x.road(0, 3, 1, 1, 1));
    Check.refuses(x, IndexOutOfBoundsException.class, "road 3 to 3, 0 days", () -> x.road(3, 3, 0, 1, 1));
    Check.refuses(x, IllegalArgumentException.class, "road to itself", () -> x.road(1, 1, 1, 1, 1));
    int[][] wrong = {{0, 1, 1}, {6, 1, 1}, {1, 0, 1}, {1, 128, 1}, {1, 1, 0}, {1, 1, 21}, {-1, -1, -1}};
    for (int[] w : wrong) {
      Check.refuses(x, IllegalArgumentException.class, "road of " + w[0] + " " + w[1] + " " + w[2],
          () -> x.road(0, 1, w[0], w[1], w[2]));
    }
    Check.same("first road", x.road(0, 1, 1, 1, 1), 0);
    Check.same("road the other way", x.road(1, 0, 5, 127, 20), 1);
    Check.refuses(x, IllegalStateException.class, "the same road", () -> x.road(0, 1, 2, 3, 4));
    Check.refuses(x, IllegalArgumentException.class, "the same road, 6 days", () -> x.road(0, 1, 6, 3, 4));
    x.close(1);
    Check.refuses(x, IndexOutOfBoundsException.class, "road from a closed one", () -> x.road(1, 2, 1, 1, 1));
    Check.refuses(x, IndexOutOfBoundsException.class, "road to a closed one", () -> x.road(2, 1, 1, 1, 1));
  }

  private static void roadLimit() {
    PostRoads x = Realms.offices(0, 0, 0, 0, 0, 0, 0);
    int built = 0;
    for (int i = 0; i < 7 && built < 30; i++) {
      for (int j = 0; j < 7 && built < 30; j++) {
        if (i != j) {
          Check.same("road " + built, x.road(i, j, 1, 1, 1), built);
          built++;
        }
      }
    }
    Check.refuses(x, IllegalStateException.class, "a 31st road", () -> x.road(6, 0, 1, 1, 1));
    Check.refuses(x, IllegalArgumentException.class, "a 31st road of no room", () -> x.road(6, 0, 1, 1, 0));
  }

  private static void bar() {
    PostRoads x = Realms.peopled(0, 0);
    Check.refuses(x, IndexOutOfBoundsException.class, "bar(-1, 1)", () -> x.bar(-1, 1));
    Check.refuses(x, IndexOutOfBoundsException.class, "bar(2, 31)", () -> x.bar(2, 31));
    Check.refuses(x, IllegalArgumentException.class, "bar(0, -1)", () -> x.bar(0, -1));
    Check.refuses(x, IllegalArgumentException.class, "bar(0, 31)", () -> x.bar(0, 31));
    Check.same("bar first", x.bar(0, 3), false);
    Check.same("bar again", x.bar(0, 30), true);
    Check.same("bar, the last telling counts", x.bar(0, 3), true);
    Check.same("ways leave bars aside", x.days(0, 1), 1);
    Realms.letter(x, 0, 1, 1);
    x.goOn(2);
    Check.same("barred on the 2nd day behind", Check.whereabouts(x, 0), "o0");
    Check.same("not left back by a barred road", x.leftBack(0), 0);
    Check.same("the bar's last day", x.bar(1, 0), false);
    x.goOn(1);
    Check.same("free on the 3rd day behind", Check.whereabouts(x, 0), "r100");
    Check.same("bar has ended", x.bar(0, 1), false);
    Check.same("barred today", x.bar(0, 0), true);
    Check.same("freed", x.bar(0, 30), false);
    x.goOn(1);
    Check.same("what is on a barred road goes on", Check.whereabouts(x, 0), "v201");
  }

  private static void ways() {
    PostRoads x = Realms.offices(0, 0, 0, 0, 0);
    x.road(0, 1, 5, 1, 1);
    x.road(0, 2, 2, 1, 1);
    x.road(2, 1, 2, 1, 1);
    x.road(1, 3, 1, 64, 1);
    Check.same("the shorter way has more roads", x.days(0, 1), 4);
    Check.same("its first road", x.firstRoad(0, 1), 1);
    Check.same("a way of three roads", x.days(0, 3), 5);
    Check.same("its first road", x.firstRoad(0, 3), 1);
    Check.same("to the same one", x.days(4, 4), 0);
    Check.refuses(x, NoSuchElementException.class, "no way back", () -> x.days(1, 0));
    Check.refuses(x, NoSuchElementException.class, "no first road back", () -> x.firstRoad(1, 0));
    Check.refuses(x, NoSuchElementException.class, "no first road to the same one", () -> x.firstRoad(1, 1));
    Check.refuses(x, IndexOutOfBoundsException.class, "days from no office", () -> x.days(-1, 0));
    Check.refuses(x, IndexOutOfBoundsException.class, "days to no office", () -> x.days(0, 5));
    Check.refuses(x, IndexOutOfBoundsException.class, "first road from no office", () -> x.firstRoad(5, 5));
    Check.refuses(x, IndexOutOfBoundsException.class, "first road to no office", () -> x.firstRoad(0, -1));
    x.close(2);
    Check.same("no way leads over a closed one", x.days(0, 3), 6);
    Check.same("the way left", x.firstRoad(0, 3), 0);
    Check.refuses(x, IndexOutOfBoundsException.class, "days from a closed one", () -> x.days(2, 2));
    Check.refuses(x, IndexOutOfBoundsException.class, "first road to a closed one", () -> x.firstRoad(0, 2));
  }

  private static void tiedWays() {
    PostRoads x = Realms.offices(0, 0, 0, 0, 0);
    x.road(0, 3, 1, 1, 1);
    x.road(3, 4, 1, 1, 1);
    x.road(0, 2, 1, 1, 1);
    x.road(2, 4, 1, 1, 1);
    Check.same("of two, by the lower office", x.firstRoad(0, 4), 2);
    x.road(0, 4, 2, 1, 1);
    Check.same("the office itself is the higher one", x.firstRoad(0, 4), 2);
    x.road(0, 1, 1, 1, 1);
    x.road(1, 4, 1, 1, 1);
    Check.same("of more, by the lowest office", x.firstRoad(0, 4), 5);
    Check.same("days of the tied ways", x.days(0, 4), 2);
  }

}
