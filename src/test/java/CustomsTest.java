/** Promise 28 at customs: what is forbidden stops at a border, comes out on the 3rd day and is sent back. */
final class CustomsTest {
  private static final int FORBIDDEN = 6;

  private CustomsTest() {
  }

  static void run() {
    threeDays();
    onTheWay();
    noBorder();
    nothingForbidden();
    withoutProofs();
    thirdComing();
    handledTheNextDay();
  }

  private static int parcel(PostRoads x, int sender, int addressee, int written) {
    return x.post(sender, addressee, written, 1, FORBIDDEN, 0, 999);
  }

  private static void threeDays() {
    PostRoads x = Realms.peopled(0, 1);
    parcel(x, 0, 1, 1);
    x.goOn(2);
    Check.same("at customs", Check.whereabouts(x, 0), "c1");
    Check.same("counted at the office", x.at(1), 1);
    Check.refuses(x, UnsupportedOperationException.class, "misthrow at customs", () -> x.misthrow(0, 1));
    x.goOn(2);
    Check.same("at customs on the 2nd day behind", Check.whereabouts(x, 0), "c1");
    Check.same("it stays without a new proof", Check.proofs(x, 0), "a0@0 d100@1 r1@2 c1@2");
    x.goOn(1);
    Check.same("out on the 3rd day, sent back and leaving", Check.whereabouts(x, 0), "r101");
    Check.same("handed over to the sender", x.goOn(1), 1);
    Check.same("no customs on the way back", Check.proofs(x, 0),
        "a0@0 d100@1 r1@2 c1@2 o1@5 s1@5 d101@5 r0@6 b200@6");
    Check.same("nothing is shared", Check.balances(x), "999 0 0");
  }

  private static void onTheWay() {
    PostRoads x = Realms.peopled(2, 1, 1);
    parcel(x, 0, 2, 2);
    x.goOn(5);
    Check.same("customs on the way to another office", Check.proofs(x, 0),
        "a0@0 d100@1 r1@2 c1@2 o1@5 s1@5 d101@5");
  }

  private static void noBorder() {
    PostRoads x = Realms.peopled(0, 0);
    parcel(x, 0, 1, 1);
    Check.same("no customs within a post", x.goOn(2), 1);
    Check.same("handed over", Check.proofs(x, 0), "a0@0 d100@1 r1@2 v201@2");
  }

  private static void nothingForbidden() {
    PostRoads x = Realms.peopled(0, 1);
    Realms.letter(x, 0, 1, 1);
    Check.same("no customs without something forbidden", x.goOn(2), 1);
    parcel(x, 0, 0, 0);
    Check.same("no customs without a road", x.goOn(1), 1);
  }

  private static void withoutProofs() {
    PostRoads x = Realms.peopled(0, 1);
    x.post(0, 1, 1, 1, 5, 0, 999);
    x.goOn(4);
    Check.same("not registered, not urgent, at customs", Check.whereabouts(x, 0), "c1");
    Check.same("without proofs of it", Check.proofs(x, 0), "a0@0");
    x.goOn(2);
    Check.same("with a proof of its end", Check.proofs(x, 0), "a0@0 b200@6");
  }

  private static void thirdComing() {
    PostRoads x = Realms.offices(0, 1, 0);
    x.road(0, 1, 1, 127, 5);
    x.road(1, 0, 1, 127, 5);
    x.person(0);
    x.person(2);
    parcel(x, 0, 1, 2);
    for (int i = 0; i < 3; i++) {
      x.misthrow(0, i % 2);
      x.goOn(2);
      Check.same("at customs, time " + i, x.state(0), 'c');
      x.lose(0);
      x.find(0);
    }
    x.misthrow(0, 1);
    x.goOn(2);
    Check.same("sent back instead of customs the 3rd time", Check.proofs(x, 0),
        "a0@0 d100@1 r1@2 c1@2 r1@2 d101@3 r0@4 c0@4 r0@4 d100@5 r1@6 c1@6 r1@6 d101@7 r0@8 s0@8");
    Check.same("at the office", Check.whereabouts(x, 0), "o0");
    Check.same("handed over the day after", x.goOn(1), 1);
  }

  private static void handledTheNextDay() {
    PostRoads x = Realms.offices(0, 1);
    x.road(0, 1, 1, 127, 5);
    x.person(0);
    x.person(1);
    parcel(x, 0, 1, 1);
    x.goOn(4);
    x.road(1, 0, 1, 1, 5);
    x.goOn(1);
    Check.same("out of customs, without a road today", Check.whereabouts(x, 0), "o1");
    x.goOn(1);
    Check.same("and still there", Check.proofs(x, 0), "a0@0 d100@1 r1@2 c1@2 o1@5 s1@5");
    x.goOn(1);
    Check.same("up to the day of the road", Check.whereabouts(x, 0), "r101");
  }
}
