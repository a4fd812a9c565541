/** Promises 16 to 18: items that are lost, claimed and found. */
final class LossTest {
  private LossTest() {
  }

  static void run() {
    lose();
    loseRefused();
    lostIsLeftOut();
    findAtAnOffice();
    findOnARoad();
    findAtCustoms();
    findRefused();
    notCountedAsComing();
    claim();
    claimOnARoad();
    claimRefused();
    claimBehindTenDays();
    foundBehindAClaim();
    foundBehindAClaimOnTheWayBack();
    claimedOnceForAll();
  }

  private static final Class<UnsupportedOperationException> UNSUPPORTED = UnsupportedOperationException.class;

  private static int insured(PostRoads x, int sender, int addressee, int written) {
    return x.post(sender, addressee, written, 1, 2, 40, 999);
  }

  private static void lose() {
    PostRoads x = Realms.peopled(0, 1, 2);
    Realms.letter(x, 0, 2, 2);
    Check.same("lost at an office", x.lose(0), 0);
    Check.same("where it was", Check.whereabouts(x, 0), "l0");
    Check.same("not told yet", Check.proofs(x, 0), "a0@0");
    Realms.letter(x, 0, 2, 2);
    x.goOn(2);
    Check.same("lost on a road", x.lose(1), 2);
    Check.same("the road", Check.whereabouts(x, 1), "l102");
    x.post(0, 1, 1, 1, 0, 0, 0);
    x.post(0, 1, 1, 1, 4, 0, 999);
    x.goOn(2);
    Check.same("one waits, one is at customs", "" + x.state(2) + x.state(3), "wc");
    Check.same("lost where it waits", x.lose(2), 1);
    Check.same("lost at customs", x.lose(3), 1);
    Check.same("both were there", Check.whereabouts(x, 2) + Check.whereabouts(x, 3), "l1l1");
    Check.same("neither is at the office", x.at(1), 0);
    Check.same("isProved leaves out what is lost", x.isProved(), true);
  }

  private static void loseRefused() {
    PostRoads x = Realms.peopled(0, 0, 0);
    Realms.letter(x, 0, 1, 1);
    Realms.letter(x, 0, 2, 1);
    Realms.letter(x, 0, 1, 2);
    Check.refuses(x, IndexOutOfBoundsException.class, "lose(-1)", () -> x.lose(-1));
    Check.refuses(x, IndexOutOfBoundsException.class, "lose(3)", () -> x.lose(3));
    x.lose(2);
    Check.refuses(x, UNSUPPORTED, "lost already", () -> x.lose(2));
    x.goOn(3);
    Check.refuses(x, UNSUPPORTED, "handed over to the addressee", () -> x.lose(0));
    Check.refuses(x, UNSUPPORTED, "handed over to the sender", () -> x.lose(1));
    x.hold(0, 30);
    Realms.letter(x, 0, 2, 1);
    x.goOn(20);
    Check.same("a dead letter", x.state(3), 'u');
    Check.refuses(x, UNSUPPORTED, "a dead letter", () -> x.lose(3));
  }

  private static void lostIsLeftOut() {
    PostRoads x = Realms.peopled(0, 1);
    for (int i = 0; i < 4; i++) {
      x.post(0, 1, 1, 1, i == 2 ? 6 : 2, 0, i == 3 ? 0 : 999);
    }
    x.lose(0);
    x.goOn(1);
    x.lose(1);
    x.goOn(1);
    x.lose(2);
    x.lose(3);
    Check.same("nothing is handed over", x.goOn(20), 0);
    Check.same("lost at the start", Check.proofs(x, 0), "a0@0");
    Check.same("lost on the road", Check.proofs(x, 1), "a0@0 d100@1");
    Check.same("lost at customs", Check.proofs(x, 2), "a0@0 d100@1 r1@2 c1@2");
    Check.same("lost as it waited", Check.proofs(x, 3), "a0@0 d100@1 r1@2");
  }

  private static void findAtAnOffice() {
    PostRoads x = Realms.peopled(0, 1);
    x.hold(1, 30);
    Realms.letter(x, 0, 1, 1);
    x.goOn(8);
    Check.same("it waits", Check.whereabouts(x, 0), "w1");
    x.lose(0);
    x.goOn(1);
    Check.same("found where it was", x.find(0), 1);
    Check.same("it is at the office", Check.whereabouts(x, 0), "o1");
    Check.same("counted there", x.at(1), 1);
    x.goOn(7);
    Check.same("waiting began anew", Check.whereabouts(x, 0), "w1");
    x.goOn(1);
    Check.same("sent back on the 8th day of it", Check.proofs(x, 0),
        "a0@0 d100@1 r1@2 r1@9 s1@17 d101@17");
  }

  private static void findOnARoad() {
    PostRoads x = Realms.peopled(0, 1, 2);
    Realms.letter(x, 0, 2, 2);
    x.goOn(1);
    x.lose(0);
    x.goOn(3);
    Check.same("found where its road led", x.find(0), 1);
    Check.same("with a proof", Check.proofs(x, 0), "a0@0 d100@1 r1@4");
    Check.same("isProved", x.isProved(), true);
    Check.same("it goes on", x.goOn(2), 1);
    Check.same("to the addressee", Check.proofs(x, 0), "a0@0 d100@1 r1@4 d102@5 r2@6 v202@6");
    Check.same("the days of both roads count", Check.balances(x), "500 499 0");
  }

  private static void findAtCustoms() {
    PostRoads x = Realms.peopled(0, 1);
    x.post(0, 1, 1, 1, 6, 0, 999);
    x.goOn(2);
    Check.same("at customs", Check.whereabouts(x, 0), "c1");
    x.lose(0);
    Check.same("found at the office", x.find(0), 1);
    Check.same("customs are forgotten", Check.whereabouts(x, 0), "o1");
    Check.same("it is handed over", x.goOn(1), 1);
    Check.same("without coming out", Check.proofs(x, 0), "a0@0 d100@1 r1@2 c1@2 r1@2 v201@3");
    x.goOn(5);
    Check.same("nor later", x.proofs(0), 6);
    PostRoads y = Realms.peopled(0, 1);
    y.post(0, 1, 1, 1, 6, 0, 999);
    y.goOn(1);
    y.lose(0);
    y.find(0);
    Check.same("found over the border, not at customs", Check.whereabouts(y, 0), "o1");
  }

  private static void findRefused() {
    PostRoads x = Realms.peopled(0, 1, 2);
    Realms.letter(x, 0, 2, 2);
    Realms.letter(x, 2, 0, 0);
    Check.refuses(x, IndexOutOfBoundsException.class, "find(-1)", () -> x.find(-1));
    Check.refuses(x, IndexOutOfBoundsException.class, "find(2)", () -> x.find(2));
    Check.refuses(x, UNSUPPORTED, "not lost", () -> x.find(0));
    x.goOn(2);
    x.lose(0);
    x.lose(1);
    Check.same("lost on a road to it, it can be closed", x.close(2), 1);
    Check.refuses(x, UNSUPPORTED, "the office of its road is closed", () -> x.find(0));
    Check.same("the other road led elsewhere", x.find(1), 0);
    Check.refuses(x, UNSUPPORTED, "found already", () -> x.find(1));
    PostRoads y = Realms.peopled(0, 1);
    Realms.letter(y, 1, 0, 0);
    y.lose(0);
    y.close(1);
    Check.refuses(y, UNSUPPORTED, "the office at which it was is closed", () -> y.find(0));
    Check.same("it was there", Check.whereabouts(y, 0), "l1");
  }

  private static void notCountedAsComing() {
    PostRoads x = Realms.offices(0, 0);
    x.road(0, 1, 1, 127, 5);
    x.person(0);
    x.person(1);
    x.hold(1, 30);
    Realms.letter(x, 0, 1, 1);
    for (int i = 0; i < 4; i++) {
      x.lose(0);
      x.find(0);
    }
    x.goOn(1);
    x.lose(0);
    x.find(0);
    x.goOn(5);
    Check.same("found five times, waiting", Check.whereabouts(x, 0), "w1");
  }

  private static void claim() {
    PostRoads x = Realms.peopled(1, 0);
    insured(x, 0, 1, 1);
    x.goOn(1);
    x.lose(0);
    x.find(0);
    x.lose(0);
    x.goOn(9);
    Check.same("ten days behind posting, the post of the office", x.claim(0), 0);
    Check.same("it pays the worth", Check.balances(x), "-40 999 0");
    Check.same("told as lost where the last proof was", Check.proofs(x, 0), "a0@0 d100@1 r1@1 l1@10");
    Check.same("it is still lost", Check.whereabouts(x, 0), "l1");
    Check.refuses(x, UNSUPPORTED, "a claim was made", () -> x.claim(0));
  }

  private static void claimOnARoad() {
    PostRoads x = Realms.peopled(2, 1);
    insured(x, 0, 1, 1);
    x.goOn(1);
    x.lose(0);
    x.goOn(20);
    Check.same("for a road that of the office from which it leads", x.claim(0), 2);
    Check.same("it pays", Check.balances(x), "0 0 959");
    Check.same("the proof's place is the road", Check.proofs(x, 0), "a0@0 d100@1 l100@21");
    PostRoads y = Realms.offices(0, 1, 2);
    y.road(0, 1, 1, 127, 1);
    y.road(1, 2, 1, 127, 1);
    y.person(0);
    y.person(2);
    insured(y, 0, 1, 2);
    y.goOn(2);
    y.lose(0);
    y.goOn(8);
    Check.same("the second road's post", y.claim(0), 1);
    Check.same("which has less than 0 then", y.balance(1), -40L);
  }

  private static void claimRefused() {
    PostRoads x = Realms.peopled(0, 0);
    insured(x, 0, 1, 1);
    x.post(0, 1, 1, 1, 2, 0, 999);
    x.post(0, 1, 1, 1, 0, 40, 999);
    x.post(0, 1, 1, 1, 2, 1, 999);
    for (int i = 1; i < 4; i++) {
      x.lose(i);
    }
    x.goOn(10);
    Check.refuses(x, IndexOutOfBoundsException.class, "claim(-1)", () -> x.claim(-1));
    Check.refuses(x, IndexOutOfBoundsException.class, "claim(4)", () -> x.claim(4));
    Check.refuses(x, UNSUPPORTED, "not lost", () -> x.claim(0));
    Check.refuses(x, UNSUPPORTED, "not insured", () -> x.claim(1));
    Check.refuses(x, UNSUPPORTED, "not registered", () -> x.claim(2));
    Check.same("a worth of 1", x.claim(3), 0);
    Check.same("is paid", x.balance(0), 4 * 999L - 1);
  }

  private static void claimBehindTenDays() {
    PostRoads x = Realms.peopled(0, 0);
    x.goOn(3);
    insured(x, 0, 1, 1);
    x.lose(0);
    x.goOn(9);
    Check.refuses(x, UNSUPPORTED, "nine days behind posting", () -> x.claim(0));
    x.goOn(1);
    Check.same("ten days", x.claim(0), 0);
  }

  private static void foundBehindAClaim() {
    PostRoads x = Realms.peopled(0, 0);
    insured(x, 0, 1, 1);
    x.goOn(1);
    x.lose(0);
    x.goOn(10);
    x.claim(0);
    Check.same("found", x.find(0), 1);
    Check.same("it is sent back at once", Check.proofs(x, 0), "a0@0 d100@1 l100@11 r1@11 s1@11");
    Check.same("isProved", x.isProved(), true);
    Check.same("it leaves on the next day", x.goOn(1), 0);
    Check.same("to the sender", x.goOn(1), 1);
    Check.same("by the way back", Check.proofs(x, 0),
        "a0@0 d100@1 l100@11 r1@11 s1@11 d101@12 r0@13 b200@13");
    Check.same("what was paid to the sender stays", x.balance(0), 959L);
  }

  private static void foundBehindAClaimOnTheWayBack() {
    PostRoads x = Realms.peopled(0, 0, 0);
    insured(x, 0, 2, 1);
    x.goOn(2);
    Check.same("on its way back", Check.whereabouts(x, 0), "r101");
    x.lose(0);
    x.goOn(8);
    x.claim(0);
    Check.same("found", x.find(0), 0);
    Check.same("to be sent back again it is a dead letter", Check.whereabouts(x, 0), "u0");
    Check.same("its proofs", Check.proofs(x, 0), "a0@0 d100@1 r1@2 s1@2 d101@2 l101@10 r0@10 u0@10");
    Check.refuses(x, UNSUPPORTED, "a dead letter is not lost", () -> x.lose(0));
  }

  private static void claimedOnceForAll() {
    PostRoads x = Realms.peopled(0, 0);
    insured(x, 0, 1, 1);
    x.lose(0);
    x.goOn(10);
    x.claim(0);
    x.find(0);
    Check.same("sent back where it was posted", Check.whereabouts(x, 0), "o0");
    x.lose(0);
    Check.refuses(x, UNSUPPORTED, "lost again, one claim was made", () -> x.claim(0));
    x.find(0);
    Check.same("found again behind a claim", Check.whereabouts(x, 0), "u0");
  }
}
