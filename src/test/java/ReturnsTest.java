/** Promise 28, what is sent on, sent back, and a dead letter; with 9, 10, 19, 20 and 24 to 26. */
final class ReturnsTest {
  private ReturnsTest() {
  }

  static void run() {
    eighthDay();
    waitingBeginsAnew();
    sentOn();
    sentOnFourTimes();
    lastMoveCounts();
    unknownPerson();
    unknownAtItsOwnOffice();
    senderMoved();
    deadLetterByWaiting();
    deadLetterByUnknown();
    thirdComing();
    thirdComingOnTheWayBack();
    thirdComingIsBeforeTheGoal();
    fourthComing();
    senderIsNotTheFirst();
    backWithoutARoad();
  }

  private static void eighthDay() {
    PostRoads x = Realms.peopled(0, 0);
    x.post(0, 1, 1, 1, 2, 0, 0);
    x.goOn(8);
    Check.same("the 7th day of waiting", Check.whereabouts(x, 0), "w1");
    x.goOn(1);
    Check.same("sent back on the 8th, and leaves", Check.whereabouts(x, 0), "r101");
    Check.same("handed over to the sender", x.goOn(1), 1);
    Check.same("its proofs", Check.proofs(x, 0), "a0@0 d100@1 r1@2 s1@9 d101@9 r0@10 b200@10");
  }

  private static void waitingBeginsAnew() {
    PostRoads x = Realms.peopled(0, 0);
    x.hold(0, 30);
    x.post(0, 1, 1, 1, 2, 0, 0);
    x.goOn(16);
    Check.same("7 days of waiting for the sender too", Check.whereabouts(x, 0), "w0");
    x.hold(0, 0);
    Check.same("then it is handed over", x.goOn(1), 1);
    PostRoads y = Realms.peopled(0, 0, 0);
    y.hold(1, 30);
    Realms.letter(y, 0, 1, 1);
    y.goOn(8);
    y.move(1, 2);
    y.goOn(8);
    Check.same("waiting at the next office begins anew", Check.whereabouts(y, 0), "w2");
    y.goOn(1);
    Check.same("up to the 8th day", Check.whereabouts(y, 0), "r103");
  }

  private static void sentOn() {
    PostRoads x = Realms.peopled(0, 0, 0);
    Realms.letter(x, 0, 1, 1);
    x.move(1, 2);
    x.goOn(2);
    Check.same("sent on, and leaves on the same day", Check.whereabouts(x, 0), "r102");
    Check.same("handed over where it moved to", x.goOn(1), 1);
    Check.same("its proofs", Check.proofs(x, 0), "a0@0 d100@1 r1@2 f1@2 d102@2 r2@3 v201@3");
  }

  private static void sentOnFourTimes() {
    PostRoads x = Realms.peopled(0, 0, 0);
    Realms.letter(x, 0, 1, 1);
    x.move(1, 2);
    x.goOn(2);
    int[] next = {1, 2, 1};
    for (int office : next) {
      x.move(1, office);
      x.goOn(1);
    }
    Check.same("three times on, then the 3rd coming is first", Check.proofs(x, 0),
        "a0@0 d100@1 r1@2 f1@2 d102@2 r2@3 f2@3 d103@3 r1@4 f1@4 d102@4 r2@5 s2@5 d103@5");
    PostRoads y = Realms.peopled(0, 0, 0, 0, 0, 0);
    Realms.letter(y, 0, 1, 1);
    y.move(1, 2);
    y.goOn(2);
    for (int office : new int[] {3, 4, 5}) {
      y.move(1, office);
      y.goOn(1);
    }
    Check.same("the 4th time it is sent back", Check.proofs(y, 0),
        "a0@0 d100@1 r1@2 f1@2 d102@2 r2@3 f2@3 d104@3 r3@4 f3@4 d106@4 r4@5 s4@5 d107@5");
    y.move(0, 1);
    y.goOn(4);
    Check.same("any further time too, a dead letter", Check.whereabouts(y, 0), "u0");
    Check.same("dead where it is", y.proofAt(0, y.proofs(0) - 1), 'u');
  }

  private static void lastMoveCounts() {
    PostRoads x = Realms.peopled(0, 0, 0, 0);
    x.move(1, 2);
    x.move(1, 1);
    x.move(1, 3);
    Realms.letter(x, 0, 1, 1);
    x.goOn(4);
    Check.same("an office knows the last move from there", Check.proofs(x, 0),
        "a0@0 d100@1 r1@2 f1@2 d102@2 r2@3 d104@3 r3@4 v201@4");
    int second = Realms.letter(x, 0, 1, 2);
    x.goOn(4);
    Check.same("another one knows its own", Check.proofs(x, second),
        "a0@4 d100@5 r1@6 d102@6 r2@7 f2@7 d103@7 r1@8 f1@8 d102@8");
  }

  private static void unknownPerson() {
    PostRoads x = Realms.peopled(0, 0, 0);
    Realms.letter(x, 0, 2, 1);
    x.goOn(2);
    Check.same("the office does not know: sent back", Check.whereabouts(x, 0), "r101");
    Check.same("handed to the sender", x.goOn(1), 1);
    Check.same("its proofs", Check.proofs(x, 0), "a0@0 d100@1 r1@2 s1@2 d101@2 r0@3 b200@3");
  }

  private static void unknownAtItsOwnOffice() {
    PostRoads x = Realms.peopled(0, 0);
    Realms.letter(x, 0, 1, 0);
    Check.same("sent back where it was posted", x.goOn(1), 0);
    Check.same("it is not handled again on this day", Check.whereabouts(x, 0), "o0");
    Check.same("handed to the sender the day after", x.goOn(1), 1);
    Check.same("its proofs", Check.proofs(x, 0), "a0@0 s0@1 b200@2");
  }

  private static void senderMoved() {
    PostRoads x = Realms.peopled(0, 0, 0);
    Realms.letter(x, 0, 2, 1);
    x.goOn(1);
    x.move(0, 2);
    x.goOn(4);
    Check.same("sent on to the sender", Check.proofs(x, 0),
        "a0@0 d100@1 r1@2 s1@2 d101@2 r0@3 f0@3 d100@3 r1@4 d102@4 r2@5 b200@5");
    Check.same("b counts the person", Check.whereabouts(x, 0), "b200");
  }

  private static void deadLetterByWaiting() {
    PostRoads x = Realms.peopled(0, 0);
    x.hold(0, 30);
    Realms.letter(x, 0, 1, 1);
    x.move(1, 0);
    x.move(1, 1);
    x.hold(1, 30);
    x.goOn(16);
    Check.same("7 days with the sender", Check.whereabouts(x, 0), "w0");
    Check.same("none is handed over", x.goOn(1), 0);
    Check.same("a dead letter on the 8th", Check.whereabouts(x, 0), "u0");
    Check.same("its proofs", Check.proofs(x, 0), "a0@0 d100@1 r1@2 s1@9 d101@9 r0@10 u0@17");
    Check.same("it is not at the office any more", x.at(0), 0);
    x.hold(0, 0);
    Check.same("it stays one", x.goOn(20), 0);
    Check.same("where it was", Check.whereabouts(x, 0), "u0");
  }

  private static void deadLetterByUnknown() {
    PostRoads x = Realms.peopled(0, 0, 0);
    x.move(0, 1);
    x.move(0, 0);
    Realms.letter(x, 0, 2, 1);
    x.goOn(1);
    x.move(0, 2);
    x.goOn(2);
    Check.same("on its way to where the sender moved", Check.whereabouts(x, 0), "r100");
    x.goOn(1);
    x.move(0, 0);
    x.goOn(2);
    Check.same("the sender was there, it is sent on", Check.proofs(x, 0),
        "a0@0 d100@1 r1@2 s1@2 d101@2 r0@3 f0@3 d100@3 r1@4 d102@4 r2@5 f2@5 d103@5 r1@6 u1@6");
  }

  private static void thirdComing() {
    PostRoads x = Realms.offices(0, 0, 0);
    x.road(0, 1, 1, 127, 5);
    x.road(1, 0, 1, 127, 5);
    x.road(1, 2, 1, 1 << 6, 5);
    x.person(0);
    x.person(2);
    Realms.letter(x, 0, 1, 2);
    x.goOn(2);
    x.misthrow(0, 1);
    x.goOn(3);
    x.misthrow(0, 1);
    x.goOn(2);
    Check.same("sent back where it was posted, and waits for the next day", Check.proofs(x, 0),
        "a0@0 d100@1 r1@2 d101@3 r0@4 d100@4 r1@5 d101@6 r0@7 s0@7");
    Check.same("not handled on this day", Check.whereabouts(x, 0), "o0");
    Check.same("handed over to the sender", x.goOn(1), 1);
  }

  private static void thirdComingOnTheWayBack() {
    PostRoads x = Realms.offices(0, 0, 0);
    x.road(0, 1, 1, 127, 5);
    x.road(1, 0, 1, 127, 5);
    x.road(1, 2, 1, 1 << 6, 5);
    x.road(2, 1, 1, 127, 5);
    x.person(0);
    x.person(0);
    Realms.letter(x, 0, 1, 2);
    x.goOn(2);
    x.misthrow(0, 1);
    x.goOn(3);
    x.goOn(2);
    Check.same("came twice to 1, then to 2, is sent back", Check.proofs(x, 0),
        "a0@0 d100@1 r1@2 d101@3 r0@4 d100@4 r1@5 d102@6 r2@7 s2@7 d103@7");
    x.goOn(1);
    Check.same("the times go on being counted", Check.whereabouts(x, 0), "u1");
    Check.same("it came before it was dead", x.proofAt(0, x.proofs(0) - 2), 'r');
  }

  private static void thirdComingIsBeforeTheGoal() {
    PostRoads x = Realms.offices(0, 0);
    x.road(0, 1, 1, 127, 5);
    x.road(1, 0, 1, 127, 5);
    x.person(0);
    x.person(0);
    x.person(1);
    x.hold(2, 30);
    Realms.letter(x, 0, 2, 1);
    x.goOn(1);
    x.move(2, 0);
    x.goOn(2);
    Check.same("sent on to where it was posted, its 2nd time there", Check.whereabouts(x, 0), "w0");
    x.move(2, 1);
    x.goOn(2);
    Check.same("back at 1 for the 2nd time", Check.whereabouts(x, 0), "w1");
    x.move(2, 0);
    x.goOn(2);
    Check.same("the 3rd time at 0, where it goes to", Check.proofs(x, 0),
        "a0@0 d100@1 r1@2 f1@2 d101@2 r0@3 f0@4 d100@4 r1@5 f1@6 d101@6 r0@7 s0@7");
    Check.same("handed to the sender instead", x.goOn(1), 1);
    Check.same("as state b", Check.whereabouts(x, 0), "b200");
  }

  private static void fourthComing() {
    PostRoads x = Realms.offices(0, 0, 0, 0, 0);
    x.road(0, 1, 1, 127, 5);
    x.road(1, 0, 1, 127, 5);
    x.road(1, 2, 1, 127, 5);
    x.road(2, 1, 1, 127, 5);
    x.road(1, 3, 1, 127, 5);
    x.road(3, 1, 1, 127, 5);
    x.person(0);
    x.person(4);
    Realms.letter(x, 0, 1, 4);
    x.bar(1, 30);
    for (int road : new int[] {0, 2, 3, 4, 5}) {
      x.misthrow(0, road);
      x.goOn(2);
    }
    Check.same("sent back the 3rd time", x.proofAt(0, x.proofs(0) - 1), 's');
    x.misthrow(0, 2);
    x.goOn(3);
    Check.same("a 4th time is no 3rd time", Check.whereabouts(x, 0), "o1");
    x.bar(1, 0);
    Check.same("it is handed over to the sender", x.goOn(2), 1);
    Check.same("its proofs", Check.proofs(x, 0), "a0@0 d100@1 r1@2 d102@3 r2@4 d103@5 r1@6 d104@7 r3@8 d105@9"
        + " r1@10 s1@10 d102@11 r2@12 d103@12 r1@13 d101@14 r0@15 b200@15");
  }

  private static void senderIsNotTheFirst() {
    PostRoads x = Realms.peopled(0, 0, 0);
    Realms.letter(x, 2, 1, 0);
    x.goOn(3);
    Check.same("on its way back", Check.whereabouts(x, 0), "r100");
    Check.same("handed over to the sender", x.goOn(3), 1);
    Check.same("200 plus the person", Check.whereabouts(x, 0), "b202");
    Check.same("in the proof too", x.proofPlace(0, x.proofs(0) - 1), 202);
  }

  private static void backWithoutARoad() {
    PostRoads x = Realms.offices(0);
    x.person(0);
    x.person(0);
    x.hold(0, 30);
    x.hold(1, 30);
    Realms.letter(x, 0, 1, 0);
    x.goOn(8);
    Check.same("sent back on the 8th day, and stays", Check.proofs(x, 0), "a0@0 s0@8");
    Check.same("not waiting yet", Check.whereabouts(x, 0), "o0");
    x.goOn(7);
    Check.same("waiting for the sender began anew", Check.whereabouts(x, 0), "w0");
    x.goOn(1);
    Check.same("a dead letter on the 8th day of this", Check.proofs(x, 0), "a0@0 s0@8 u0@16");
  }
}
