/** Edges that the Terms name of a day: customs, times, waiting, sending on and back, losses, claims and closing. */
final class MailEdgesTest {
  private MailEdgesTest() {
  }

  static void run() {
    customsDayByDay();
    customsWherePosted();
    customsOnlyOnTheWayThere();
    secondTimeIsFree();
    thirdTimeWherePosted();
    thirdTimeElsewhere();
    thirdTimeTwiceIsDead();
    eachDayOfWaiting();
    waitingForTwoReasons();
    waitingGoesOnAcrossReasons();
    waitingDoesNotAddUp();
    eachSendingOn();
    sendingsOnAreCountedOnTheWayBack();
    claimDayByDay();
    claimBehindFinding();
    foundOnTheDay();
    closingLeavesTheOthers();
    closingLeavesOtherGoals();
    closingIsNoComing();
    closingWithMisthrown();
    closingTheOfficeOfPosting();
    leftBackStaysCounted();
    severalDaysAreSingleDays();
  }

  /** Offices in a ring of one-day roads: road i leads from i to the next one. */
  private static PostRoads ring(int... posts) {
    PostRoads x = Realms.offices(posts);
    for (int i = 0; i < posts.length; i++) {
      x.road(i, (i + 1) % posts.length, 1, Realms.EVERY_DAY, 20);
      x.person(i);
    }
    return x;
  }

  private static void customsDayByDay() {
    PostRoads x = Realms.peopled(0, 1);
    x.post(0, 1, 1, 1, 7, 0, 999);
    char[] states = {'r', 'c', 'c', 'c', 'r', 'b'};
    for (int i = 0; i < states.length; i++) {
      x.goOn(1);
      Check.same("state on the day " + (i + 1), x.state(0), states[i]);
    }
    Check.same("out on the 3rd day behind the coming", x.proofAt(0, 4), 'o');
    Check.same("which is the day 5", x.proofDay(0, 4), 5);
  }

  private static void customsWherePosted() {
    PostRoads x = Realms.offices(0, 1, 1);
    x.road(0, 1, 1, 127, 5);
    x.road(1, 0, 1, 127, 5);
    x.road(1, 2, 1, 127, 5);
    x.person(0);
    x.person(2);
    x.post(0, 1, 2, 1, 6, 0, 999);
    x.goOn(2);
    x.lose(0);
    x.find(0);
    x.misthrow(0, 1);
    x.goOn(2);
    Check.same("customs at the office at which it was posted", Check.whereabouts(x, 0), "c0");
    Check.same("out and sent back to this office, not handed over on this day", x.goOn(3), 0);
    Check.same("it is there", Check.whereabouts(x, 0), "o0");
    Check.same("handed to the sender the day after", x.goOn(1), 1);
    Check.same("its proofs", Check.proofs(x, 0),
        "a0@0 d100@1 r1@2 c1@2 r1@2 d101@3 r0@4 c0@4 o0@7 s0@7 b200@8");
  }

  private static void customsOnlyOnTheWayThere() {
    PostRoads x = ring(0, 0, 1);
    x.post(0, 2, 1, 1, 6, 0, 999);
    x.goOn(2);
    Check.same("sent back within the post", Check.whereabouts(x, 0), "r101");
    x.goOn(1);
    Check.same("over a border on its way back", Check.whereabouts(x, 0), "r102");
    Check.same("and over another one, to the sender", x.goOn(1), 1);
    x.post(0, 2, 2, 1, 6, 0, 999);
    x.goOn(3);
    Check.same("on its way there it is at customs", Check.whereabouts(x, 1), "c2");
    x.post(0, 2, 2, 1, 2, 0, 999);
    Check.same("one without anything forbidden is not", x.goOn(3), 1);
  }

  private static void secondTimeIsFree() {
    PostRoads x = ring(0, 0, 0);
    x.move(2, 0);
    Realms.letter(x, 1, 2, 2);
    x.goOn(2);
    x.move(2, 1);
    Check.same("sent on to 0, the 1st time there", Check.whereabouts(x, 0), "r102");
    x.goOn(1);
    Check.same("sent on to 1", Check.whereabouts(x, 0), "r100");
    Check.same("the 2nd time where it was posted, it is handed over", x.goOn(1), 1);
    Check.same("its proofs", Check.proofs(x, 0), "a1@0 d101@1 r2@2 f2@2 d102@2 r0@3 f0@3 d100@3 r1@4 v202@4");
  }

  private static void thirdTimeWherePosted() {
    PostRoads x = ring(0, 0, 0);
    x.road(1, 0, 1, 127, 5);
    Realms.letter(x, 0, 2, 2);
    x.goOn(1);
    x.bar(1, 30);
    x.goOn(1);
    x.misthrow(0, 3);
    x.goOn(2);
    Check.same("the 2nd time, it goes on", Check.whereabouts(x, 0), "r100");
    x.goOn(1);
    x.misthrow(0, 3);
    x.goOn(1);
    Check.same("misthrown once more", Check.whereabouts(x, 0), "r103");
    x.goOn(1);
    Check.same("the 3rd time, it is sent back", x.proofAt(0, x.proofs(0) - 1), 's');
    Check.same("where it is, with nothing more today", Check.whereabouts(x, 0), "o0");
    Check.same("handed to the sender", x.goOn(1), 1);
  }

  /** Office 1 stands between two others, and the item, posted at 0, is thrown to and fro between 1 and 2. */
  private static PostRoads thrown(int throwings) {
    PostRoads x = Realms.offices(0, 0, 0, 0);
    int[][] ends = {{0, 1}, {1, 0}, {1, 2}, {2, 1}, {1, 3}};
    for (int[] end : ends) {
      x.road(end[0], end[1], 1, 127, 5);
    }
    x.person(0);
    x.person(3);
    Realms.letter(x, 0, 1, 3);
    x.bar(4, 30);
    x.goOn(2);
    for (int i = 0; i < throwings; i++) {
      x.misthrow(0, 2);
      x.goOn(3);
    }
    return x;
  }

  private static void thirdTimeElsewhere() {
    PostRoads x = thrown(1);
    Check.same("twice at 1, it waits for its way", Check.whereabouts(x, 0), "o1");
    Check.same("without a sending back", Check.proofs(x, 0), "a0@0 d100@1 r1@2 d102@3 r2@4 d103@4 r1@5");
    PostRoads y = thrown(2);
    Check.same("the 3rd time at 1 it is sent back", Check.proofs(y, 0),
        "a0@0 d100@1 r1@2 d102@3 r2@4 d103@4 r1@5 d102@6 r2@7 d103@7 r1@8 s1@8 d101@8");
    Check.same("handed over to the sender, its 2nd time at 0", y.goOn(1), 1);
  }

  private static void thirdTimeTwiceIsDead() {
    PostRoads x = thrown(1);
    x.bar(1, 30);
    x.misthrow(0, 2);
    x.goOn(3);
    x.misthrow(0, 2);
    x.goOn(1);
    Check.same("sent back, and misthrown to 2 for the 3rd time", Check.whereabouts(x, 0), "r102");
    x.goOn(1);
    Check.same("a dead letter there", Check.whereabouts(x, 0), "u2");
    Check.same("with its proofs", Check.proofs(x, 0),
        "a0@0 d100@1 r1@2 d102@3 r2@4 d103@4 r1@5 d102@6 r2@7 d103@7 r1@8 s1@8 d102@9 r2@10 u2@10");
  }

  private static void eachDayOfWaiting() {
    for (int days = 1; days <= 8; days++) {
      PostRoads x = Realms.peopled(0, 0);
      x.post(0, 1, 1, 1, 3, 0, 0);
      x.goOn(1 + days);
      Check.same("waiting for the day " + days, x.state(0), days < 8 ? 'w' : 'r');
      x.pay(0);
      Check.same("handed over when it is paid, but behind the 7th day", x.goOn(1), 1);
      Check.same("to whom", Check.whereabouts(x, 0), days < 8 ? "v201" : "b200");
    }
  }

  private static void waitingForTwoReasons() {
    PostRoads x = Realms.peopled(0, 0);
    x.post(0, 1, 1, 1, 3, 0, 0);
    x.hold(1, 6);
    x.goOn(8);
    Check.same("four days of holding and three of payment", Check.whereabouts(x, 0), "w1");
    x.goOn(1);
    Check.same("are counted together", Check.whereabouts(x, 0), "r101");
    PostRoads y = Realms.peopled(0, 0);
    y.post(0, 1, 1, 1, 3, 0, 0);
    y.hold(1, 30);
    y.goOn(2);
    y.pay(0);
    Check.same("paid, but held", y.goOn(1), 0);
    y.hold(1, 0);
    Check.same("neither any more", y.goOn(1), 1);
  }

  private static void waitingGoesOnAcrossReasons() {
    PostRoads x = Realms.peopled(0, 0);
    x.post(0, 1, 1, 1, 3, 0, 0);
    x.goOn(5);
    x.hold(1, 30);
    x.pay(0);
    x.goOn(1);
    x.hold(1, 0);
    x.hold(1, 30);
    x.goOn(2);
    Check.same("seven days, first unpaid, then held", Check.whereabouts(x, 0), "w1");
    x.goOn(1);
    Check.same("neither paying nor holding anew begins it anew", Check.whereabouts(x, 0), "r101");
  }

  private static void waitingDoesNotAddUp() {
    PostRoads x = Realms.peopled(0, 0, 0);
    x.hold(1, 30);
    Realms.letter(x, 0, 1, 1);
    x.goOn(8);
    x.move(1, 2);
    x.goOn(1);
    x.move(1, 1);
    x.goOn(1);
    Check.same("sent on and on again", Check.whereabouts(x, 0), "r103");
    x.goOn(7);
    Check.same("the 7th day of the new waiting", Check.whereabouts(x, 0), "w1");
    x.goOn(1);
    Check.same("the 8th day of it", x.proofAt(0, x.proofs(0) - 2), 's');
  }

  private static void eachSendingOn() {
    for (int times = 1; times <= 4; times++) {
      PostRoads x = ring(0, 0, 0, 0, 0, 0);
      Realms.letter(x, 0, 1, 1);
      for (int i = 1; i <= times; i++) {
        x.move(1, i + 1);
      }
      x.goOn(2 + times);
      char due = times < 4 ? 'v' : 'r';
      Check.same("sent on " + times + " times", x.state(0), due);
      Check.same("sendings on", count(x, 'f'), Math.min(3, times));
      Check.same("sendings back", count(x, 's'), times < 4 ? 0 : 1);
    }
  }

  private static int count(PostRoads x, char kind) {
    int count = 0;
    for (int i = 0; i < x.proofs(0); i++) {
      count += x.proofAt(0, i) == kind ? 1 : 0;
    }
    return count;
  }

  private static void sendingsOnAreCountedOnTheWayBack() {
    for (int before = 2; before <= 3; before++) {
      PostRoads x = ring(0, 0, 0, 0, 0);
      Realms.letter(x, 0, 1, 1);
      for (int i = 1; i <= before; i++) {
        x.move(1, i + 1);
      }
      x.hold(1, 30);
      x.move(0, 1);
      x.goOn(20);
      Check.same("sent on " + before + " times, then sent back", count(x, 's'), 1);
      Check.same("sent on to the sender only as the 3rd time", count(x, 'f'), 3);
      Check.same("otherwise a dead letter where it was posted", Check.whereabouts(x, 0), before == 2 ? "b200" : "u0");
    }
  }

  private static void claimDayByDay() {
    for (int days = 0; days <= 12; days++) {
      PostRoads x = Realms.peopled(0, 1);
      x.goOn(4);
      Realms.insured(x, 1, 0, 0);
      x.lose(0);
      if (days > 0) {
        x.goOn(days);
      }
      Object due = days < 10 ? "UnsupportedOperationException" : (Object) 1;
      Check.same("claim " + days + " days behind posting", Calls.outcome(x, "claim 0"), due);
      Check.same("what the post has then", x.balance(1), days < 10 ? 999L : 959L);
    }
  }

  private static void claimBehindFinding() {
    PostRoads x = Realms.peopled(0, 1, 2);
    Realms.insured(x, 0, 2, 2);
    x.goOn(1);
    x.lose(0);
    x.find(0);
    x.goOn(1);
    x.lose(0);
    x.goOn(8);
    Check.same("the last proof is the second road", x.claim(0), 1);
    Check.same("told with its place", Check.proofs(x, 0), "a0@0 d100@1 r1@1 d102@2 l102@10");
    Check.same("the post of the road pays", Check.balances(x), "999 -40 0");
  }

  private static void foundOnTheDay() {
    PostRoads x = Realms.peopled(0, 1);
    x.post(0, 1, 1, 1, 6, 40, 999);
    x.goOn(1);
    x.lose(0);
    x.goOn(9);
    x.claim(0);
    Check.same("found behind a claim", x.find(0), 1);
    Check.same("sent back, not at customs", Check.whereabouts(x, 0), "o1");
    x.goOn(1);
    Check.same("and leaves", Check.whereabouts(x, 0), "r101");
    PostRoads y = Realms.peopled(0, 1);
    Realms.insured(y, 0, 1, 1);
    y.lose(0);
    y.goOn(10);
    y.claim(0);
    y.find(0);
    Check.same("sent back where it was posted, handed over on the next day", y.goOn(1), 1);
    Check.same("its proofs", Check.proofs(y, 0), "a0@0 l0@10 r0@10 s0@10 b200@11");
  }

  private static void closingLeavesTheOthers() {
    PostRoads x = Realms.busy();
    String before = items(x);
    Check.same("closed without anything there", x.close(2), 1);
    Check.same("no item is anywhere else", items(x), before);
    Check.same("closed with two items there", x.close(0), 1);
    Check.same("the misthrown one came", Check.proofs(x, 12), "a0@14 r1@14");
    Check.same("the one at 3 did not", Check.proofs(x, 13), "a3@14");
    Check.same("the waiting one at 1 did not", Check.whereabouts(x, 9), "w1");
  }

  private static String items(PostRoads x) {
    StringBuilder text = new StringBuilder();
    for (int i = 0; i < 14; i++) {
      text.append(Check.whereabouts(x, i)).append(' ').append(Check.proofs(x, i)).append(", ");
    }
    return text.toString();
  }

  private static void closingLeavesOtherGoals() {
    PostRoads x = Realms.peopled(0, 0, 0, 0);
    Realms.letter(x, 0, 3, 1);
    Realms.letter(x, 0, 1, 1);
    x.close(3);
    x.goOn(2);
    Check.same("it goes where it went", Check.whereabouts(x, 1), "v201");
    Check.same("and back where it was posted", Check.proofs(x, 0), "a0@0 d100@1 r1@2 s1@2 d101@2");
    Check.same("to the sender", x.goOn(1), 1);
  }

  private static void closingIsNoComing() {
    PostRoads x = Realms.peopled(0, 0, 0);
    x.hold(2, 3);
    Realms.letter(x, 1, 2, 2);
    x.goOn(2);
    Check.same("closed where it waits", x.close(2), 1);
    Check.same("back where it was posted, by closing", Check.whereabouts(x, 0), "o1");
    x.move(2, 0);
    x.goOn(1);
    Check.same("sent on", Check.whereabouts(x, 0), "r101");
    x.move(2, 1);
    x.goOn(1);
    Check.same("and on again", Check.whereabouts(x, 0), "r100");
    x.goOn(1);
    Check.same("posted at 1, once there by closing and once by a road: it is handed over", Check.proofs(x, 0),
        "a1@0 d102@1 r2@2 r1@2 f1@3 d101@3 r0@4 f0@4 d100@4 r1@5 v202@5");
  }

  private static void closingWithMisthrown() {
    PostRoads x = Realms.offices(0, 0, 0, 0);
    int[][] ends = {{0, 1}, {0, 2}, {1, 2}, {2, 3}, {1, 3}, {0, 3}};
    for (int[] end : ends) {
      x.road(end[0], end[1], 1, 127, 5);
    }
    x.person(0);
    x.person(3);
    for (int i = 0; i < 3; i++) {
      Realms.letter(x, 0, 1, 3);
      x.misthrow(i, i == 2 ? 5 : i);
    }
    Check.same("closed", x.close(2), 3);
    x.goOn(1);
    Check.same("a road apart from it", Check.whereabouts(x, 0), "r100");
    Check.same("a road to it: its way again", Check.whereabouts(x, 1), "r105");
    Check.same("the road of its way", Check.whereabouts(x, 2), "r105");
  }

  private static void closingTheOfficeOfPosting() {
    PostRoads x = Realms.peopled(0, 1, 2);
    x.post(0, 2, 2, 1, 1, 0, 1);
    x.goOn(2);
    Check.same("closed", x.close(0), 1);
    Check.same("paid later", x.pay(0), 5);
    Check.same("to the post of the office of posting", Check.balances(x), "6 0 0");
    x.goOn(1);
    Check.same("shared by the roads, the closed one's too", Check.balances(x), "3 3 0");
    Check.same("which is all", x.state(0), 'v');
  }

  private static void leftBackStaysCounted() {
    PostRoads x = Realms.offices(0, 0, 0);
    x.road(0, 1, 1, 127, 1);
    x.road(1, 0, 1, 127, 1);
    x.person(0);
    x.person(2);
    for (int i = 0; i < 3; i++) {
      Realms.letter(x, 0, 1, 1);
    }
    x.goOn(5);
    Check.same("the last was left back twice, and sent back", Check.proofs(x, 2),
        "a0@0 d100@3 r1@4 s1@4 d101@4 r0@5 b200@5");
    Check.same("counted behind the sending back", x.leftBack(2), 2);
    x.close(1);
    Check.same("and behind its end", x.leftBack(2), 2);
  }

  private static void severalDaysAreSingleDays() {
    for (int days = 1; days <= 20; days++) {
      PostRoads x = Realms.busy();
      PostRoads y = Realms.busy();
      int handed = 0;
      for (int i = 0; i < days; i++) {
        handed += y.goOn(1);
      }
      Check.same("handed over in " + days + " days", x.goOn(days), handed);
      Check.same("the day", x.day(), 14 + days);
      Check.same("all the rest", Snapshot.of(x), Snapshot.of(y));
    }
  }
}
