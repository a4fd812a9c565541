/** Promise 5: closing an office, and what persons, items, ways and knowledge become by it. */
final class CloseTest {
  private CloseTest() {
  }

  static void run() {
    nearest();
    refused();
    refusedBecauseOfItems();
    persons();
    itemsComeAtOnce();
    waitingBeginsAnew();
    goalMoves();
    placeOfPostingMoves();
    knowledgeMoves();
    knowsBetter();
    othersKnowTheNewOffice();
    knewTheClosedOne();
    misthrown();
    noWayOver();
    closedOffice();
    deadLettersStay();
  }

  private static final Class<UnsupportedOperationException> UNSUPPORTED = UnsupportedOperationException.class;

  private static void nearest() {
    PostRoads x = Realms.offices(0, 0, 0, 0, 0);
    x.road(4, 3, 2, 127, 1);
    x.road(4, 1, 3, 127, 1);
    x.road(3, 2, 1, 127, 1);
    x.road(3, 0, 5, 127, 1);
    Check.same("the nearest by days", x.close(4), 3);
    Check.same("the nearest again", x.close(3), 2);
    PostRoads y = Realms.offices(0, 0, 0, 0);
    y.road(0, 3, 2, 127, 1);
    y.road(0, 2, 1, 127, 1);
    y.road(2, 1, 1, 127, 1);
    y.close(2);
    Check.same("a closed one is none", y.close(0), 3);
    PostRoads z = Realms.offices(0, 0, 0, 0);
    z.road(3, 2, 2, 127, 1);
    z.road(3, 0, 5, 127, 1);
    z.road(3, 1, 2, 127, 1);
    Check.same("the lowest of several", z.close(3), 1);
  }

  private static void refused() {
    PostRoads x = Realms.offices(0, 0, 0);
    x.road(0, 1, 1, 127, 1);
    x.person(1);
    Check.refuses(x, IndexOutOfBoundsException.class, "close(-1)", () -> x.close(-1));
    Check.refuses(x, IndexOutOfBoundsException.class, "close(3)", () -> x.close(3));
    Check.refuses(x, UNSUPPORTED, "no way to another one", () -> x.close(1));
    Check.refuses(x, UNSUPPORTED, "no road at all", () -> x.close(2));
    x.close(0);
    Check.refuses(x, IndexOutOfBoundsException.class, "closed already", () -> x.close(0));
    x.road(1, 2, 1, 127, 1);
    x.road(2, 1, 1, 127, 1);
    x.close(1);
    Check.refuses(x, UNSUPPORTED, "the last open one", () -> x.close(2));
  }

  private static void refusedBecauseOfItems() {
    PostRoads x = Realms.peopled(0, 1, 1);
    x.post(0, 1, 1, 1, 6, 0, 999);
    x.goOn(1);
    Check.refuses(x, UNSUPPORTED, "something is on a road to it", () -> x.close(1));
    x.goOn(1);
    Check.refuses(x, UNSUPPORTED, "something is at customs there", () -> x.close(1));
    x.goOn(2);
    Check.refuses(x, UNSUPPORTED, "still at customs", () -> x.close(1));
    x.goOn(1);
    Check.same("a road from it does not matter", Check.whereabouts(x, 0), "r101");
    Check.same("closed", x.close(1), 0);
    Check.same("what is on its road goes on", x.goOn(1), 1);
    PostRoads y = Realms.peopled(0, 1);
    y.post(0, 1, 1, 1, 6, 0, 999);
    y.goOn(2);
    y.lose(0);
    Check.same("lost at customs there, it can be closed", y.close(1), 0);
    Check.same("and it stays where it was", Check.whereabouts(y, 0), "l1");
  }

  private static void persons() {
    PostRoads x = Realms.line(0, 0, 0);
    for (int i = 0; i < 6; i++) {
      x.person(i % 3);
    }
    x.close(2);
    int[] homes = {0, 1, 1, 0, 1, 1};
    for (int i = 0; i < homes.length; i++) {
      Check.same("home of " + i, x.home(i), homes[i]);
    }
    x.hold(2, 3);
    x.close(1);
    Check.same("all at one office", x.home(5), 0);
    Check.same("moving leaves the holding", x.hold(2, 0), true);
  }

  private static void itemsComeAtOnce() {
    PostRoads x = Realms.peopled(0, 0, 1);
    Realms.letter(x, 1, 0, 0);
    x.post(1, 2, 2, 1, 0, 0, 999);
    x.post(1, 0, 0, 1, 2, 0, 0);
    x.goOn(1);
    x.post(1, 2, 2, 1, 2, 0, 999);
    x.post(2, 1, 1, 1, 2, 0, 999);
    Check.same("two are on roads to 0", "" + x.state(0) + x.place(0), "r101");
    x.goOn(1);
    x.lose(3);
    Check.same("handed over and waiting at 0", "" + x.state(0) + x.state(2), "vw");
    x.goOn(1);
    Realms.letter(x, 1, 2, 2);
    Check.same("closed", x.close(1), 0);
    Check.same("it comes with a proof", Check.proofs(x, 5), "a1@3 r0@3");
    Check.same("it is at the office", Check.whereabouts(x, 5), "o0");
    Check.same("lost ones do not come", Check.whereabouts(x, 3), "l102");
    Check.same("handed over ones neither", Check.whereabouts(x, 4), "v201");
    Check.same("counted at the new one", x.at(0), 2);
    Check.same("none at the closed one", x.at(1), 0);
    Check.same("isProved", x.isProved(), true);
  }

  private static void waitingBeginsAnew() {
    PostRoads x = Realms.peopled(0, 1);
    x.hold(1, 30);
    Realms.letter(x, 0, 1, 1);
    x.post(0, 1, 1, 1, 4, 0, 999);
    x.lose(1);
    x.goOn(8);
    Check.same("seven days", Check.whereabouts(x, 0), "w1");
    x.close(1);
    Check.same("it does not wait there yet", Check.whereabouts(x, 0), "o0");
    x.goOn(1);
    Check.same("then it does", Check.whereabouts(x, 0), "w0");
    x.goOn(6);
    Check.same("for seven days", Check.whereabouts(x, 0), "w0");
    x.goOn(1);
    Check.same("sent back on the 8th, where it was posted", Check.proofs(x, 0),
        "a0@0 d100@1 r1@2 r0@8 s0@16");
    Check.same("handed to the sender", x.goOn(1), 1);
    PostRoads y = Realms.peopled(0, 1, 1);
    Realms.letter(y, 0, 1, 1);
    y.hold(1, 30);
    y.goOn(2);
    y.close(1);
    y.hold(1, 0);
    y.move(1, 2);
    y.move(1, 0);
    Check.same("coming by closing is not counted", y.goOn(1), 1);
  }

  private static void goalMoves() {
    PostRoads x = Realms.peopled(0, 0, 0);
    x.road(0, 2, 5, 127, 5);
    Realms.letter(x, 0, 2, 2);
    Realms.letter(x, 0, 2, 2);
    x.goOn(1);
    x.lose(1);
    x.close(2);
    x.find(1);
    Check.same("both go to the new office, where the person lives", x.goOn(1), 2);
    Check.same("it went to 2", Check.proofs(x, 0), "a0@0 d100@1 r1@2 v202@2");
  }

  private static void placeOfPostingMoves() {
    PostRoads x = Realms.peopled(0, 0, 0, 0);
    Realms.letter(x, 0, 1, 3);
    Realms.letter(x, 0, 1, 3);
    x.goOn(1);
    Check.same("closed", x.close(0), 1);
    x.goOn(2);
    Check.same("sent back to where the sender lives now", Check.whereabouts(x, 0), "r104");
    Check.same("on its way back", x.goOn(1), 0);
    x.lose(0);
    x.goOn(1);
    Check.same("it comes", Check.proofs(x, 1),
        "a0@0 d100@1 r1@2 d102@2 r2@3 d104@3 r3@4 s3@4 d105@4 r2@5 d103@5");
    Check.same("to the sender", x.goOn(1), 1);
    Check.same("by state b", Check.whereabouts(x, 1), "b200");
  }

  private static void knowledgeMoves() {
    PostRoads x = Realms.peopled(0, 0, 0, 0);
    x.move(2, 3);
    Realms.letter(x, 0, 2, 2);
    x.goOn(1);
    Check.same("closed", x.close(2), 1);
    Realms.letter(x, 0, 2, 1);
    x.road(1, 3, 1, 127, 5);
    x.goOn(1);
    Check.same("the new office knows where it moved", Check.proofs(x, 0), "a0@0 d100@1 r1@2 f1@2 d106@2");
    x.goOn(2);
    Check.same("also for later items", Check.proofs(x, 1), "a0@1 d100@2 r1@3 f1@3 d106@3 r3@4 v202@4");
  }

  private static void knowsBetter() {
    PostRoads x = Realms.peopled(0, 0, 0, 0);
    x.road(1, 3, 1, 127, 5);
    x.move(2, 3);
    x.move(2, 1);
    x.move(2, 0);
    x.close(2);
    Realms.letter(x, 3, 2, 1);
    x.road(3, 1, 1, 127, 5);
    x.goOn(3);
    Check.same("it knows better itself: on to 0", Check.proofs(x, 0), "a3@0 d107@1 r1@2 f1@2 d101@2 r0@3 v202@3");
  }

  private static void othersKnowTheNewOffice() {
    PostRoads x = Realms.peopled(0, 0, 0, 0);
    x.move(0, 3);
    x.close(3);
    Check.same("moved twice", x.home(0), 2);
    Realms.letter(x, 1, 0, 0);
    x.goOn(4);
    Check.same("sent on to where the closed one's went", Check.proofs(x, 0),
        "a1@0 d101@1 r0@2 f0@2 d100@2 r1@3 d102@3 r2@4 v200@4");
  }

  private static void knewTheClosedOne() {
    PostRoads x = Realms.peopled(0, 0, 0, 0);
    x.move(2, 3);
    x.move(2, 0);
    x.close(3);
    Realms.letter(x, 0, 2, 2);
    x.goOn(5);
    Check.same("it knew only the closed one, and knows now what that knew", Check.proofs(x, 0),
        "a0@0 d100@1 r1@2 d102@2 r2@3 f2@3 d103@3 r1@4 d101@4 r0@5 v202@5");
  }

  private static void misthrown() {
    PostRoads x = Realms.peopled(0, 0, 0, 0);
    Realms.letter(x, 1, 0, 0);
    Realms.letter(x, 1, 3, 3);
    Realms.letter(x, 2, 3, 3);
    Check.same("to the office that is closed", x.misthrow(0, 2), true);
    x.misthrow(1, 1);
    Check.same("from the office that is closed", x.misthrow(2, 3), true);
    x.road(1, 3, 1, 127, 5);
    Check.same("closed", x.close(2), 1);
    x.goOn(1);
    Check.same("not misthrown any more", Check.whereabouts(x, 0), "r101");
    Check.same("misthrown by a road apart from it", Check.whereabouts(x, 1), "r101");
    Check.same("it goes its way from the new office", Check.whereabouts(x, 2), "r106");
  }

  private static void noWayOver() {
    PostRoads x = Realms.peopled(0, 0, 0);
    Realms.letter(x, 0, 2, 2);
    x.close(1);
    Check.refuses(x, java.util.NoSuchElementException.class, "no way", () -> x.days(0, 2));
    Check.same("the price without a way", x.price(0, 2, 1, 1, 0), 30);
    x.goOn(5);
    Check.same("it waits for a way", Check.whereabouts(x, 0), "o0");
  }

  private static void closedOffice() {
    PostRoads x = Realms.peopled(0, 0, 0);
    x.close(2);
    Check.same("nothing is at a closed office", x.at(2), 0);
    Check.same("its road can be barred", x.bar(3, 2), false);
    Check.refuses(x, IndexOutOfBoundsException.class, "person at it", () -> x.person(2));
    Check.refuses(x, IndexOutOfBoundsException.class, "move to it", () -> x.move(0, 2));
    Check.refuses(x, IndexOutOfBoundsException.class, "price to it", () -> x.price(0, 2, 1, 1, 0));
    Check.refuses(x, IndexOutOfBoundsException.class, "post to it", () -> x.post(0, 1, 2, 1, 1, 0, 0));
    Check.refuses(x, IndexOutOfBoundsException.class, "road to it", () -> x.road(0, 2, 1, 1, 1));
  }

  private static void deadLettersStay() {
    PostRoads x = Realms.peopled(0, 0, 0);
    x.hold(0, 30);
    Realms.letter(x, 0, 2, 1);
    x.goOn(20);
    Check.same("a dead letter", Check.whereabouts(x, 0), "u0");
    x.close(0);
    Check.same("it stays where it is one", Check.whereabouts(x, 0), "u0");
    Check.same("its last proof", x.proofAt(0, x.proofs(0) - 1), 'u');
    Check.same("isProved", x.isProved(), true);
  }
}
