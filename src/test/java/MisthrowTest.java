/** Promise 15: an item that is misthrown goes another road, once. */
final class MisthrowTest {
  private MisthrowTest() {
  }

  static void run() {
    answers();
    once();
    waitsForItsRoad();
    room();
    lost();
    sentBack();
    handedOver();
    refused();
  }

  private static PostRoads fork() {
    PostRoads x = Realms.offices(0, 0, 0);
    x.road(0, 1, 1, 127, 5);
    x.road(0, 2, 1, 127, 5);
    x.road(2, 1, 1, 127, 5);
    x.road(2, 0, 1, 127, 5);
    x.person(0);
    x.person(1);
    return x;
  }

  private static void answers() {
    PostRoads x = fork();
    Realms.letter(x, 0, 1, 1);
    Check.same("to the road of its way", x.misthrow(0, 0), false);
    Check.same("to another one", x.misthrow(0, 1), true);
    Check.same("to the same again", x.misthrow(0, 1), false);
    Check.same("back from an earlier misthrowing", x.misthrow(0, 0), true);
    Check.same("nothing is proved", Check.proofs(x, 0), "a0@0");
    Realms.letter(x, 0, 0, 0);
    Check.same("none where it goes to", x.misthrow(1, 1), false);
    Check.same("but then the earlier misthrowing", x.misthrow(1, 0), true);
    PostRoads y = Realms.offices(0, 0, 0);
    y.road(0, 1, 1, 127, 5);
    y.person(0);
    Realms.letter(y, 0, 0, 2);
    Check.same("none without a way", y.misthrow(0, 0), false);
    y.goOn(1);
    Check.same("but it goes", Check.whereabouts(y, 0), "r100");
  }

  private static void once() {
    PostRoads x = fork();
    Realms.letter(x, 0, 1, 1);
    x.misthrow(0, 1);
    x.goOn(2);
    Check.same("then it goes its way", Check.whereabouts(x, 0), "r102");
    Check.same("to the addressee", x.goOn(1), 1);
  }

  private static void waitsForItsRoad() {
    PostRoads x = Realms.offices(0, 0, 0);
    x.road(0, 1, 1, 127, 5);
    x.road(0, 2, 1, 1 << 4, 5);
    x.person(0);
    x.person(1);
    Realms.letter(x, 0, 1, 1);
    x.misthrow(0, 1);
    x.goOn(3);
    Check.same("it waits for the told road", Check.whereabouts(x, 0), "o0");
    Check.same("and is not left back", x.leftBack(0), 0);
    x.bar(1, 2);
    x.goOn(1);
    Check.same("also while that is barred", Check.whereabouts(x, 0), "o0");
    x.goOn(7);
    Check.same("until it starts", Check.proofs(x, 0), "a0@0 d101@11");
  }

  private static void room() {
    PostRoads x = Realms.offices(0, 0, 0);
    x.road(0, 1, 1, 127, 5);
    x.road(0, 2, 1, 127, 1);
    x.person(0);
    x.person(2);
    Realms.letter(x, 0, 1, 2);
    x.post(0, 1, 1, 1, 1, 0, 999);
    x.misthrow(1, 1);
    x.goOn(1);
    Check.same("left back by the told road", x.leftBack(1), 1);
    Check.same("it stays", Check.whereabouts(x, 1), "o0");
    x.goOn(1);
    Check.same("and goes it the next time", Check.whereabouts(x, 1), "r101");
  }

  private static void lost() {
    PostRoads x = fork();
    Realms.letter(x, 0, 1, 1);
    x.misthrow(0, 1);
    x.lose(0);
    x.find(0);
    x.goOn(1);
    Check.same("not any more when it was lost", Check.whereabouts(x, 0), "r100");
  }

  private static void sentBack() {
    PostRoads x = fork();
    x.road(1, 0, 1, 1 << 6, 5);
    x.road(1, 2, 1, 127, 5);
    Realms.letter(x, 0, 0, 1);
    x.goOn(2);
    Check.same("sent back, its road starts later", Check.whereabouts(x, 0), "o1");
    Check.same("misthrown on its way back", x.misthrow(0, 5), true);
    x.goOn(1);
    Check.same("it goes the told road", Check.whereabouts(x, 0), "r105");
    Check.same("and then to the sender", x.goOn(2), 1);
    PostRoads y = fork();
    Realms.letter(y, 0, 1, 0);
    y.misthrow(0, 1);
    y.goOn(1);
    Check.same("misthrown first, sent back then, it goes the told road", Check.proofs(y, 0), "a0@0 s0@1 d101@1");
    Check.same("to the sender all the same", y.goOn(2), 1);
  }

  private static void handedOver() {
    PostRoads x = fork();
    Realms.letter(x, 0, 0, 0);
    x.misthrow(0, 1);
    Check.same("handling comes ahead of leaving", x.goOn(1), 1);
    x.post(0, 0, 0, 1, 0, 0, 0);
    x.misthrow(1, 1);
    x.goOn(2);
    Check.same("what waits does not leave", Check.whereabouts(x, 1), "w0");
  }

  private static void refused() {
    PostRoads x = fork();
    int item = Realms.letter(x, 0, 1, 1);
    Check.refuses(x, IndexOutOfBoundsException.class, "misthrow(-1, 0)", () -> x.misthrow(-1, 0));
    Check.refuses(x, IndexOutOfBoundsException.class, "misthrow(1, 0)", () -> x.misthrow(1, 0));
    Check.refuses(x, IndexOutOfBoundsException.class, "misthrow(0, -1)", () -> x.misthrow(0, -1));
    Check.refuses(x, IndexOutOfBoundsException.class, "misthrow(0, 4)", () -> x.misthrow(0, 4));
    Class<UnsupportedOperationException> due = UnsupportedOperationException.class;
    Check.refuses(x, due, "a road from another office", () -> x.misthrow(item, 2));
    x.goOn(1);
    Check.refuses(x, due, "an item on a road", () -> x.misthrow(item, 0));
    x.goOn(1);
    Check.refuses(x, due, "one that is handed over", () -> x.misthrow(item, 0));
    int waiting = x.post(0, 0, 0, 1, 0, 0, 0);
    x.goOn(1);
    Check.refuses(x, due, "one that waits", () -> x.misthrow(waiting, 0));
    x.lose(waiting);
    Check.refuses(x, due, "one that is lost", () -> x.misthrow(waiting, 0));
    int other = Realms.letter(x, 0, 1, 1);
    x.close(2);
    Check.refuses(x, due, "a road to a closed office", () -> x.misthrow(other, 1));
    Check.refuses(x, IndexOutOfBoundsException.class, "no such item, a closed road", () -> x.misthrow(9, 1));
  }
}
