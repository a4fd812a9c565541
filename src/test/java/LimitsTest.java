/** The last place that is free, which serves as the first one does, and the one behind it: 10, 30, 16 and 60. */
final class LimitsTest {
  private LimitsTest() {
  }

  static void run() {
    tenthOffice();
    thirtiethRoad();
    sixteenthPerson();
    sixtiethItem();
    closedOnesKeepTheirPlaces();
    endedItemsKeepTheirPlaces();
  }

  private static void tenthOffice() {
    PostRoads x = Realms.line(0, 0, 0, 0, 0, 0, 0, 0, 1, 2);
    Check.same("an 11th office", Calls.outcome(x, "office 0"), "IllegalStateException");
    Check.same("the way from the first to the tenth", x.days(0, 9), 9);
    Check.same("the way back", x.days(9, 0), 9);
    Check.same("its first road", x.firstRoad(9, 0), 17);
    Check.same("a person there", x.person(9), 0);
    x.person(8);
    Realms.letter(x, 0, 1, 8);
    Check.same("an item there", x.at(9), 1);
    Check.same("handed over next door", x.goOn(2), 1);
    Check.same("shared with its post", Check.balances(x), "0 0 999");
    Check.same("from the tenth office", Check.proofs(x, 0), "a9@0 d117@1 r8@2 v201@2");
    Realms.letter(x, 0, 1, 8);
    x.move(1, 9);
    x.goOn(2);
    x.hold(1, 30);
    Check.same("sent on to the tenth office", Check.whereabouts(x, 1), "r116");
    x.goOn(1);
    Check.same("its 2nd time there", Check.whereabouts(x, 1), "w9");
    Check.same("the tenth is closed", x.close(9), 8);
    Check.same("its persons move", x.home(0) + x.home(1), 16);
    Check.same("its items come", Check.whereabouts(x, 1), "o8");
  }

  private static void thirtiethRoad() {
    PostRoads x = Realms.offices(0, 0, 0, 0, 0, 0, 0, 1, 1, 1);
    for (int i = 0; i < 29; i++) {
      Check.same("a road", x.road(i % 9, (i + 1 + i / 9) % 9, 1, 127, 1), i);
    }
    Check.same("the 30th road", x.road(9, 0, 2, 127, 1), 29);
    Check.same("a 31st road", Calls.outcome(x, "road 0 9 1 127 1"), "IllegalStateException");
    Check.same("the first road of a way", x.firstRoad(9, 0), 29);
    x.person(9);
    x.person(0);
    Realms.letter(x, 0, 1, 0);
    Realms.letter(x, 0, 1, 0);
    Check.same("to the road of its way", x.misthrow(0, 29), false);
    x.goOn(1);
    Check.same("100 plus the road", Check.whereabouts(x, 0), "r129");
    Check.same("left back by the full road", x.leftBack(1), 1);
    Check.same("it is barred", x.bar(29, 2), false);
    Check.same("lost on it", x.lose(0), 0);
    Check.same("the road when it was lost", Check.whereabouts(x, 0), "l129");
    x.goOn(1);
    Check.same("barred for today and the next day", Check.whereabouts(x, 1), "o9");
    x.goOn(1);
    Check.same("then it starts", Check.proofs(x, 1), "a9@0 d129@3");
    Check.same("it can be barred again", x.bar(29, 1), false);
  }

  private static void sixteenthPerson() {
    PostRoads x = Realms.line(0, 0, 0);
    for (int i = 0; i < 16; i++) {
      Check.same("a person", x.person(i == 15 ? 1 : 0), i);
    }
    Check.same("a 17th person", Calls.outcome(x, "person 0"), "IllegalStateException");
    Check.same("home of the last", x.home(15), 1);
    Check.same("it moves", x.move(15, 2), 1);
    Check.same("it holds mail", x.hold(15, 5), false);
    Realms.letter(x, 0, 15, 1);
    x.goOn(3);
    Check.same("sent on to the last person", Check.whereabouts(x, 0), "w2");
    x.goOn(2);
    Check.same("200 plus the person", Check.whereabouts(x, 0), "v215");
    Realms.letter(x, 15, 3, 1);
    x.goOn(3);
    Check.same("back to the last person", Check.proofs(x, 1), "a2@5 d103@6 r1@7 s1@7 d102@7 r2@8 b215@8");
  }

  private static void sixtiethItem() {
    PostRoads x = Realms.offices(0, 1);
    x.road(0, 1, 1, 127, 20);
    x.person(0);
    x.person(1);
    for (int i = 0; i < 59; i++) {
      x.post(0, 1, 1, 1, 0, 0, 12);
    }
    Check.same("the 60th item", x.post(0, 1, 1, 1, 3, 10, 0), 59);
    Check.same("a 61st item", Calls.outcome(x, "post 0 1 1 1 0 0 0"), "IllegalStateException");
    Check.same("all are at the office", x.at(0), 60);
    Check.same("its price", x.due(59), 12);
    x.goOn(2);
    Check.same("left back twice", x.leftBack(59), 2);
    Check.same("20 left on each day", x.at(0), 20);
    Check.same("20 more were handed over", x.goOn(1), 20);
    Check.same("the last one leaves with the last 20", Check.whereabouts(x, 59), "r100");
    Check.same("it is paid", x.pay(59), 12);
    Check.same("and handed over", x.goOn(1), 20);
    Check.same("each of the 60", x.handedShare(), 1.0f);
    Check.same("by 20 in 2, 3 and 4 days", x.meanDays(), 3.0);
    Check.same("its proofs", Check.proofs(x, 59), "a0@0 d100@3 r1@4 v201@4");
  }

  private static void closedOnesKeepTheirPlaces() {
    PostRoads x = Realms.line(0, 0, 0, 0, 0, 0, 0, 0, 0, 0);
    x.close(9);
    x.close(0);
    Check.same("closed offices count", Calls.outcome(x, "office 0"), "IllegalStateException");
    for (int i = 0; i < 12; i++) {
      Check.same("a road", x.road(i < 6 ? 1 : 8, i < 6 ? i + 3 : i - 5, 1, 127, 1), 18 + i);
    }
    Check.same("roads of closed offices count", Calls.outcome(x, "road 2 8 1 1 1"), "IllegalStateException");
  }

  private static void endedItemsKeepTheirPlaces() {
    PostRoads x = Realms.peopled(0, 0, 0);
    x.hold(0, 30);
    for (int i = 0; i < 60; i++) {
      Realms.letter(x, i % 3 == 0 ? 0 : 1, i % 3 == 2 ? 1 : 2, 1);
    }
    x.goOn(20);
    for (int i = 0; i < 60; i++) {
      Check.same("ended in each way", x.state(i), i % 3 == 0 ? 'u' : i % 3 == 1 ? 'b' : 'v');
    }
    Check.same("they count all the same", Calls.outcome(x, "post 0 1 1 1 0 0 0"), "IllegalStateException");
  }
}
