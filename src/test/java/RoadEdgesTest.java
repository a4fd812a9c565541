/** Edges that the Terms name of offices, roads, ways, bars, persons and postage, each number of them in turn. */
final class RoadEdgesTest {
  private RoadEdgesTest() {
  }

  static void run() {
    everyDayOfTheWeek();
    someDaysOfTheWeek();
    everyLength();
    everyRoom();
    roomEachTime();
    fullForThoseNotUrgent();
    everyBar();
    barsDoNotAddUp();
    everyHolding();
    holdingsDoNotAddUp();
    tieFurtherOn();
    wayOverTheFirstOffice();
    waysWithoutWeekAndBar();
    noWayBack();
    everyZone();
    everyWorth();
    everyKind();
    everyPost();
    dueByOne();
  }

  /** A road between two offices with a person at each, and a letter of the first to the second. */
  private static PostRoads road(int days, int week, int room, int letters) {
    PostRoads x = Realms.offices(0, 0);
    x.road(0, 1, days, week, room);
    x.person(0);
    x.person(1);
    for (int i = 0; i < letters; i++) {
      Realms.letter(x, 0, 1, 1);
    }
    return x;
  }

  private static void everyDayOfTheWeek() {
    for (int day = 0; day < 7; day++) {
      PostRoads x = road(1, 1 << day, 1, 2);
      x.goOn(20);
      int first = day == 0 ? 7 : day;
      Check.same("leaves on the day " + day + " of the week", Check.proofs(x, 0),
          "a0@0 d100@" + first + " r1@" + (first + 1) + " v201@" + (first + 1));
      Check.same("the next one a week later", x.proofDay(1, 1), first + 7);
      Check.same("left back once", x.leftBack(1), 1);
    }
  }

  private static void someDaysOfTheWeek() {
    PostRoads x = road(1, 1 | 1 << 2 | 1 << 6, 1, 6);
    x.goOn(20);
    int[] days = {2, 6, 7, 9, 13, 14};
    for (int i = 0; i < days.length; i++) {
      Check.same("on the days 0, 2 and 6 of the week", x.proofDay(i, 1), days[i]);
    }
  }

  private static void everyLength() {
    for (int days = 1; days <= 5; days++) {
      PostRoads x = road(days, 127, 1, 1);
      Check.same("days of a road", x.days(0, 1), days);
      x.goOn(days);
      Check.same("not there before " + days + " days", Check.whereabouts(x, 0), "r100");
      x.goOn(1);
      Check.same("there behind " + days + " days", Check.whereabouts(x, 0), "v201");
    }
  }

  private static void everyRoom() {
    for (int room = 1; room <= 20; room++) {
      PostRoads x = road(5, 127, room, room + 1);
      x.goOn(1);
      Check.same("the last of " + room, x.state(room - 1), 'r');
      Check.same("the next one", x.state(room), 'o');
      Check.same("was left back", x.leftBack(room), 1);
    }
  }

  private static void roomEachTime() {
    PostRoads x = road(5, 127, 2, 6);
    x.goOn(3);
    for (int i = 0; i < 6; i++) {
      Check.same("two on each day", x.proofDay(i, 1), 1 + i / 2);
      Check.same("left back on each day before", x.leftBack(i), i / 2);
    }
  }

  private static void fullForThoseNotUrgent() {
    PostRoads x = road(1, 127, 2, 0);
    x.post(0, 1, 1, 1, 3, 0, 999);
    x.post(0, 1, 1, 1, 3, 0, 999);
    x.post(0, 1, 1, 1, 2, 0, 999);
    x.goOn(1);
    Check.same("the urgent one and the first other", "" + x.state(0) + x.state(1) + x.state(2), "ror");
    x.post(0, 1, 1, 1, 2, 0, 999);
    x.post(0, 1, 1, 1, 2, 0, 999);
    x.goOn(1);
    Check.same("urgent ones fill it", "" + x.state(1) + x.state(3) + x.state(4), "orr");
    Check.same("left back on both days", x.leftBack(1), 2);
  }

  private static void everyBar() {
    for (int days = 0; days <= 30; days++) {
      PostRoads x = road(1, 127, 1, 1);
      x.bar(0, days);
      x.goOn(20);
      x.goOn(15);
      Check.same("barred for " + days + " days, today included", x.proofDay(0, 1), Math.max(1, days));
    }
  }

  private static void barsDoNotAddUp() {
    PostRoads x = road(1, 127, 1, 2);
    x.bar(0, 30);
    x.bar(0, 2);
    x.goOn(2);
    Check.same("the last telling is the shorter one", Check.whereabouts(x, 0), "r100");
    x.bar(0, 2);
    x.bar(0, 4);
    x.goOn(3);
    Check.same("the last telling is the longer one", Check.whereabouts(x, 1), "o0");
    Check.same("barred up to today", x.bar(0, 1), true);
    x.goOn(1);
    Check.same("the day behind the last", Check.whereabouts(x, 1), "r100");
  }

  private static void everyHolding() {
    for (int days = 0; days <= 9; days++) {
      PostRoads x = road(1, 127, 1, 1);
      x.hold(1, days);
      x.goOn(20);
      Check.same("held for " + days + " days, today included", x.state(0), 'v');
      Check.same("handed over behind them", x.proofDay(0, 3), Math.max(2, days));
    }
    PostRoads y = road(1, 127, 1, 1);
    y.hold(1, 10);
    y.goOn(9);
    Check.same("sent back on the 8th day of waiting", y.proofAt(0, 3), 's');
  }

  private static void holdingsDoNotAddUp() {
    PostRoads x = road(1, 127, 1, 1);
    x.hold(1, 30);
    x.hold(1, 3);
    x.goOn(2);
    Check.same("held on the last day", Check.whereabouts(x, 0), "w1");
    x.goOn(1);
    Check.same("the last telling is the shorter one", Check.whereabouts(x, 0), "v201");
    Realms.letter(x, 0, 1, 1);
    x.hold(1, 2);
    x.hold(1, 4);
    x.goOn(3);
    Check.same("the last telling is the longer one", Check.whereabouts(x, 1), "w1");
    x.goOn(1);
    Check.same("it has ended", Check.whereabouts(x, 1), "v201");
  }

  private static void tieFurtherOn() {
    PostRoads x = Realms.offices(0, 0, 0, 0, 0, 0);
    int[][] ends = {{5, 4}, {4, 3}, {4, 2}, {3, 1}, {2, 1}, {1, 0}, {3, 0}};
    for (int[] end : ends) {
      x.road(end[0], end[1], end[1] == 0 && end[0] == 3 ? 2 : 1, 127, 5);
    }
    Check.same("four days by each of three ways", x.days(5, 0), 4);
    x.person(5);
    x.person(0);
    Realms.letter(x, 0, 1, 0);
    x.goOn(5);
    Check.same("the lower office where they part, and so on", Check.proofs(x, 0),
        "a5@0 d100@1 r4@2 d102@2 r2@3 d104@3 r1@4 d105@4 r0@5 v201@5");
    Check.same("over the lower office, not by the shorter list", x.firstRoad(3, 0), 6);
  }

  private static void wayOverTheFirstOffice() {
    PostRoads x = Realms.offices(0, 0, 0);
    x.road(1, 0, 1, 1, 1);
    x.road(0, 2, 1, 1, 1);
    Check.same("a way over office 0", x.days(1, 2), 2);
    Check.same("its first road", x.firstRoad(1, 2), 0);
    x.road(1, 2, 2, 1, 1);
    Check.same("tied with the road itself: 0 is lower", x.firstRoad(1, 2), 0);
  }

  private static void waysWithoutWeekAndBar() {
    PostRoads x = Realms.offices(0, 0, 0);
    x.road(0, 1, 2, 1, 1);
    x.road(0, 2, 1, 127, 1);
    x.road(2, 1, 2, 127, 1);
    x.bar(0, 30);
    Check.same("the fewest days on roads", x.days(0, 1), 2);
    Check.same("whose road is barred and starts once a week", x.firstRoad(0, 1), 0);
    x.person(0);
    x.person(1);
    Realms.letter(x, 0, 1, 1);
    x.goOn(20);
    x.goOn(14);
    Check.same("an item waits for it", Check.whereabouts(x, 0), "o0");
    x.goOn(1);
    Check.same("up to its day", Check.whereabouts(x, 0), "r100");
  }

  private static void noWayBack() {
    PostRoads x = road(1, 127, 1, 1);
    Check.same("there is a way", x.days(0, 1), 1);
    Check.same("and none back", Calls.outcome(x, "days 1 0"), "NoSuchElementException");
    x.move(1, 0);
    x.goOn(20);
    Check.same("sent on without a way, it waits", Check.proofs(x, 0), "a0@0 d100@1 r1@2 f1@2");
    x.road(1, 0, 1, 127, 1);
    Check.same("a way was built", x.goOn(2), 1);
  }

  private static void everyZone() {
    PostRoads x = Realms.line(0, 0, 0, 0, 0, 0, 0, 0, 0, 0);
    int[] zones = {0, 1, 1, 2, 2, 3, 3, 4, 4, 5};
    for (int days = 0; days < 10; days++) {
      Check.same("price by " + days + " days", x.price(0, days, 8, 1, 0), 10 * (1 + zones[days]));
      Check.same("urgent", x.price(days, 0, 8, 0, 0), 20 * (1 + zones[days]));
    }
    PostRoads y = Realms.offices(0, 0, 0, 0, 0);
    for (int i = 0; i < 4; i++) {
      y.road(i, i + 1, 5, 127, 1);
    }
    Check.same("20 days are zone 10", y.price(0, 4, 8, 1, 0), 110);
    Check.same("no way is zone 9", y.price(4, 0, 8, 1, 0), 100);
  }

  private static void everyWorth() {
    PostRoads x = Realms.offices(0);
    for (int worth = 0; worth <= 100; worth++) {
      int tenths = worth % 10 == 0 ? worth / 10 : worth / 10 + 1;
      Check.same("price of the worth " + worth, x.price(0, 0, 1, 1, worth), 3 + tenths);
    }
    for (int weight = 1; weight <= 20; weight++) {
      Check.same("price of the weight " + weight, x.price(0, 0, weight, 3, 0), 2 + weight + 5);
    }
  }

  private static void everyKind() {
    int[] prices = {12, 6, 17, 11, 12, 6, 17, 11};
    for (int kind = 0; kind < 8; kind++) {
      PostRoads x = Realms.peopled(0, 1);
      x.post(0, 1, 1, 1, kind, 0, 0);
      Check.same("due of the kind " + kind, x.due(0), prices[kind]);
      x.pay(0);
      x.goOn(2);
      Check.same("forbidden from 4 on", x.state(0), kind >= 4 ? 'c' : 'v');
      Check.same("registered by 2", x.proofs(0) >= 3, kind % 4 >= 2);
    }
  }

  private static void everyPost() {
    for (int post = 0; post < 3; post++) {
      for (int other = 0; other < 3; other++) {
        PostRoads x = Realms.peopled(post, other);
        x.post(0, 1, 1, 1, 4, 0, 10);
        x.pay(0);
        Check.same("paid to the post of posting", x.balance(post), 12L);
        x.goOn(2);
        Check.same("customs between other posts", x.state(0), post == other ? 'v' : 'c');
      }
    }
  }

  private static void dueByOne() {
    PostRoads x = Realms.peopled(0, 0);
    int price = x.price(0, 1, 20, 2, 100);
    for (int more = -1; more <= 1; more++) {
      int item = x.post(0, 1, 1, 20, 2, 100, price + more);
      Check.same("due of one less, the price, one more", x.due(item), more < 0 ? 1 : 0);
    }
    x.goOn(2);
    Check.same("one is due, it waits", "" + x.state(0) + x.state(1) + x.state(2), "wvv");
    Check.same("it is paid", x.pay(0), 1);
    Check.same("and handed over", x.goOn(1), 1);
  }
}
