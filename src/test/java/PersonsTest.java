/** Promises 8 to 11: persons, who move and hold mail. */
final class PersonsTest {
  private PersonsTest() {
  }

  static void run() {
    person();
    move();
    hold();
    heldMail();
  }

  private static void person() {
    PostRoads x = Realms.line(0, 1, 2);
    x.close(2);
    Check.refuses(x, IndexOutOfBoundsException.class, "person(-1)", () -> x.person(-1));
    Check.refuses(x, IndexOutOfBoundsException.class, "person(3)", () -> x.person(3));
    Check.refuses(x, IndexOutOfBoundsException.class, "person at a closed one", () -> x.person(2));
    for (int i = 0; i < 16; i++) {
      Check.same("person " + i, x.person(i % 2), i);
      Check.same("home of " + i, x.home(i), i % 2);
    }
    Check.refuses(x, IllegalStateException.class, "a 17th person", () -> x.person(0));
    Check.refuses(x, IndexOutOfBoundsException.class, "a 17th person at a closed one", () -> x.person(2));
    Check.refuses(x, IndexOutOfBoundsException.class, "home(-1)", () -> x.home(-1));
    Check.refuses(x, IndexOutOfBoundsException.class, "home(16)", () -> x.home(16));
  }

  private static void move() {
    PostRoads x = Realms.peopled(0, 1, 2);
    Check.refuses(x, IndexOutOfBoundsException.class, "move(-1, 0)", () -> x.move(-1, 0));
    Check.refuses(x, IndexOutOfBoundsException.class, "move(3, 0)", () -> x.move(3, 0));
    Check.refuses(x, IndexOutOfBoundsException.class, "move(0, -1)", () -> x.move(0, -1));
    Check.refuses(x, IndexOutOfBoundsException.class, "move(0, 3)", () -> x.move(0, 3));
    Check.refuses(x, IllegalArgumentException.class, "move to where it lives", () -> x.move(1, 1));
    Check.same("move", x.move(1, 2), 1);
    Check.same("home behind the move", x.home(1), 2);
    Check.same("move back", x.move(1, 1), 2);
    Check.same("home behind the move back", x.home(1), 1);
    x.close(2);
    Check.refuses(x, IndexOutOfBoundsException.class, "move to a closed one", () -> x.move(0, 2));
  }

  private static void hold() {
    PostRoads x = Realms.peopled(0, 1);
    Check.refuses(x, IndexOutOfBoundsException.class, "hold(-1, 1)", () -> x.hold(-1, 1));
    Check.refuses(x, IndexOutOfBoundsException.class, "hold(2, 31)", () -> x.hold(2, 31));
    Check.refuses(x, IllegalArgumentException.class, "hold(0, -1)", () -> x.hold(0, -1));
    Check.refuses(x, IllegalArgumentException.class, "hold(0, 31)", () -> x.hold(0, 31));
    Check.same("hold first", x.hold(0, 1), false);
    Check.same("held today", x.hold(0, 30), true);
    x.goOn(20);
    x.goOn(9);
    Check.same("held on the 30th day", x.hold(0, 30), true);
    x.goOn(20);
    x.goOn(10);
    Check.same("not held on the 31st day", x.hold(0, 2), false);
    Check.same("held again", x.hold(0, 0), true);
    Check.same("not held any more", x.hold(0, 0), false);
  }

  private static void heldMail() {
    PostRoads x = Realms.peopled(0, 0);
    Realms.letter(x, 0, 1, 1);
    x.hold(1, 5);
    x.goOn(2);
    Check.same("it waits for a holder", Check.whereabouts(x, 0), "w1");
    x.goOn(2);
    Check.same("it waits on the last day", Check.whereabouts(x, 0), "w1");
    Check.same("handed over behind the last day", x.goOn(1), 1);
    Check.same("waiting has no proof", Check.proofs(x, 0), "a0@0 d100@1 r1@2 v201@5");
    int second = Realms.letter(x, 0, 1, 1);
    x.hold(1, 20);
    x.goOn(3);
    Check.same("it waits again", Check.whereabouts(x, second), "w1");
    x.hold(1, 0);
    Check.same("holding ends at once", x.goOn(1), 1);
  }
}
