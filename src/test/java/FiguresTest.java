/** Promises 27 to 33 where other tests leave them: figures of several items. */
final class FiguresTest {
  private FiguresTest() {
  }

  static void run() {
    withoutItems();
    handedShare();
    meanDays();
    goOnCountsBoth();
    balancesOfSeveral();
    objectsApart();
  }

  private static void withoutItems() {
    PostRoads x = new PostRoads();
    Check.refuses(x, ArithmeticException.class, "handedShare without items", x::handedShare);
    Check.refuses(x, ArithmeticException.class, "meanDays without items", x::meanDays);
    Check.same("goOn without anything", x.goOn(20), 0);
    Check.same("day", x.day(), 20);
    Check.same("isProved", x.isProved(), true);
  }

  private static void handedShare() {
    PostRoads x = Realms.peopled(0, 0, 0);
    Realms.letter(x, 0, 1, 1);
    Realms.letter(x, 0, 2, 1);
    Realms.letter(x, 0, 2, 2);
    Check.same("none of three", x.handedShare(), 0.0f);
    Check.refuses(x, ArithmeticException.class, "meanDays of none", x::meanDays);
    x.goOn(2);
    Check.same("one of three", x.handedShare(), 1f / 3f);
    x.goOn(1);
    Check.same("two of three, one to the sender", x.handedShare(), 2f / 3f);
    x.post(0, 1, 1, 1, 0, 0, 0);
    Check.same("two of four", x.handedShare(), 0.5f);
    Check.same("it is a float", Check.outcome(x::handedShare) instanceof Float, true);
  }

  private static void meanDays() {
    PostRoads x = Realms.peopled(0, 0, 0);
    Realms.letter(x, 0, 1, 1);
    x.goOn(1);
    Realms.letter(x, 0, 2, 2);
    Realms.letter(x, 0, 2, 2);
    x.goOn(1);
    Check.same("two days", x.meanDays(), 2.0);
    x.goOn(20);
    Check.same("two, three and three days", x.meanDays(), 8.0 / 3.0);
    Realms.letter(x, 0, 2, 1);
    Check.same("handed to the sender", x.goOn(20), 1);
    Check.same("which does not count", x.meanDays(), 8.0 / 3.0);
  }

  private static void goOnCountsBoth() {
    PostRoads x = Realms.peopled(0, 0, 0);
    for (int i = 0; i < 5; i++) {
      Realms.letter(x, 0, i % 2 == 0 ? 1 : 2, 1);
    }
    Check.same("one day", x.goOn(1), 0);
    Check.same("three to the addressee", x.goOn(1), 3);
    Check.same("two to the sender", x.goOn(1), 2);
    Check.same("none is left", x.goOn(20), 0);
    for (int i = 0; i < 5; i++) {
      Realms.letter(x, 0, i % 2 == 0 ? 1 : 2, 1);
    }
    Check.same("all in some days", x.goOn(3), 5);
  }

  private static void balancesOfSeveral() {
    PostRoads x = Realms.peopled(0, 1, 2);
    x.post(0, 2, 2, 1, 1, 0, 10);
    x.post(1, 0, 0, 1, 1, 0, 20);
    x.post(2, 0, 0, 1, 1, 0, 31);
    Check.same("what was paid", Check.balances(x), "10 20 31");
    x.goOn(20);
    Check.same("shared by the roads left by", Check.balances(x), "5 40 16");
  }

  private static void objectsApart() {
    PostRoads x = Realms.peopled(0, 1);
    PostRoads y = Realms.peopled(0, 1);
    Realms.letter(x, 0, 1, 1);
    x.goOn(5);
    Check.same("the other realm's day", y.day(), 0);
    Check.same("the other realm's balance", y.balance(0), 0L);
    Check.same("the other realm's first item", Realms.letter(y, 0, 1, 1), 0);
  }
}
