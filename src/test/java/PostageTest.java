/** Promises 12 to 14, 21 and 30: price, posting, what is due, paying, balances and shares. */
final class PostageTest {
  private PostageTest() {
  }

  static void run() {
    price();
    priceZones();
    priceRefused();
    posting();
    postRefused();
    itemLimit();
    dueAndPay();
    waitsForPayment();
    senderOwesNothing();
    shares();
    sharesByDays();
    nothingShared();
    balanceRefused();
  }

  private static void price() {
    PostRoads x = Realms.line(0, 0);
    Check.same("urgent", x.price(0, 1, 1, 0, 0), 12);
    Check.same("not urgent", x.price(0, 1, 1, 1, 0), 6);
    Check.same("urgent, registered", x.price(0, 1, 1, 2, 0), 17);
    Check.same("registered", x.price(0, 1, 1, 3, 0), 11);
    Check.same("heaviest", x.price(0, 1, 20, 1, 0), 44);
    Check.same("worth 1", x.price(0, 1, 1, 1, 1), 7);
    Check.same("worth 10", x.price(0, 1, 1, 1, 10), 7);
    Check.same("worth 11", x.price(0, 1, 1, 1, 11), 8);
    Check.same("worth 100", x.price(0, 1, 1, 2, 100), 27);
    Check.same("to the same one", x.price(0, 0, 1, 1, 0), 3);
  }

  private static void priceZones() {
    PostRoads x = Realms.offices(0, 0, 0, 0);
    x.road(0, 1, 2, 1, 1);
    x.road(0, 2, 3, 1, 1);
    x.road(1, 3, 5, 1, 1);
    Check.same("2 days are zone 1", x.price(0, 1, 8, 1, 0), 20);
    Check.same("3 days are zone 2", x.price(0, 2, 8, 1, 0), 30);
    Check.same("7 days are zone 4", x.price(0, 3, 8, 1, 0), 50);
    Check.same("no way is zone 9", x.price(3, 0, 8, 1, 0), 100);
    x.bar(0, 30);
    Check.same("a bar does not count", x.price(0, 1, 8, 1, 0), 20);
  }

  private static void priceRefused() {
    PostRoads x = Realms.line(0, 0, 0);
    x.close(2);
    Check.refuses(x, IndexOutOfBoundsException.class, "price from -1", () -> x.price(-1, 0, 1, 0, 0));
    Check.refuses(x, IndexOutOfBoundsException.class, "price to 3", () -> x.price(0, 3, 0, 9, 999));
    Check.refuses(x, IndexOutOfBoundsException.class, "price from a closed one", () -> x.price(2, 0, 1, 0, 0));
    Check.refuses(x, IndexOutOfBoundsException.class, "price to a closed one", () -> x.price(0, 2, 1, 0, 0));
    int[][] wrong = {{0, 0, 0}, {21, 0, 0}, {1, -1, 0}, {1, 4, 0}, {1, 0, -1}, {1, 0, 101}};
    for (int[] w : wrong) {
      Check.refuses(x, IllegalArgumentException.class, "price of " + w[0] + " " + w[1] + " " + w[2],
          () -> x.price(0, 1, w[0], w[1], w[2]));
    }
  }

  private static void posting() {
    PostRoads x = Realms.peopled(1, 0);
    Check.same("first item", x.post(0, 1, 1, 1, 0, 0, 5), 0);
    Check.same("second item", x.post(0, 0, 0, 20, 7, 100, 0), 1);
    Check.same("it is at the sender's office", Check.whereabouts(x, 0), "o0");
    Check.same("its proof", Check.proofs(x, 0), "a0@0");
    Check.same("items at the office", x.at(0), 2);
    Check.same("paid goes to the post of posting", Check.balances(x), "0 5 0");
    Check.same("due of the first", x.due(0), 7);
    Check.same("due of the second", x.due(1), 22 + 5 + 10);
    Check.same("left back never", x.leftBack(0), 0);
    x.goOn(1);
    Check.same("handled on the next day", Check.whereabouts(x, 0), "r100");
    Check.same("to oneself it waits for what is due", Check.whereabouts(x, 1), "w0");
    x.pay(1);
    Check.same("handed to the sender as the addressee", x.goOn(1), 1);
    Check.same("which is state v", Check.whereabouts(x, 1), "v200");
  }

  private static void postRefused() {
    PostRoads x = Realms.peopled(0, 0, 0);
    x.close(2);
    Check.refuses(x, IndexOutOfBoundsException.class, "post by -1", () -> x.post(-1, 0, 0, 1, 0, 0, 0));
    Check.refuses(x, IndexOutOfBoundsException.class, "post to 3", () -> x.post(0, 3, 0, 0, 8, 101, 1000));
    Check.refuses(x, IndexOutOfBoundsException.class, "written -1", () -> x.post(0, 1, -1, 1, 0, 0, 0));
    Check.refuses(x, IndexOutOfBoundsException.class, "written 3", () -> x.post(0, 1, 3, 1, 0, 0, 0));
    Check.refuses(x, IndexOutOfBoundsException.class, "written a closed one", () -> x.post(0, 1, 2, 0, 0, 0, 0));
    int[][] wrong = {{0, 0, 0, 0}, {21, 0, 0, 0}, {1, -1, 0, 0}, {1, 8, 0, 0}, {1, 0, -1, 0}, {1, 0, 101, 0},
        {1, 0, 0, -1}, {1, 0, 0, 1000}};
    for (int[] w : wrong) {
      Check.refuses(x, IllegalArgumentException.class, "post of " + w[0] + " " + w[1] + " " + w[2] + " " + w[3],
          () -> x.post(0, 1, 1, w[0], w[1], w[2], w[3]));
    }
    Check.same("the first number is still free", x.post(0, 1, 1, 1, 0, 0, 0), 0);
  }

  private static void itemLimit() {
    PostRoads x = Realms.peopled(0, 0);
    for (int i = 0; i < 60; i++) {
      Check.same("item " + i, x.post(0, 1, 1, 1, 1, 0, 999), i);
    }
    Check.refuses(x, IllegalStateException.class, "a 61st item", () -> x.post(0, 1, 1, 1, 1, 0, 0));
    Check.refuses(x, IllegalArgumentException.class, "a 61st item of no weight", () -> x.post(0, 1, 1, 0, 1, 0, 0));
    x.goOn(10);
    Check.same("handed over all", x.handedShare(), 1.0f);
    Check.refuses(x, IllegalStateException.class, "items behind their end count", () -> x.post(0, 1, 1, 1, 1, 0, 0));
  }

  private static void dueAndPay() {
    PostRoads x = Realms.peopled(2, 0);
    x.post(0, 1, 1, 1, 1, 0, 6);
    x.post(0, 1, 1, 1, 1, 0, 5);
    x.post(0, 1, 1, 1, 1, 0, 7);
    Check.same("paid the price", x.due(0), 0);
    Check.same("paid less", x.due(1), 1);
    Check.same("paid more", x.due(2), 0);
    Check.same("pay nothing", x.pay(0), 0);
    Check.same("pay what is due", x.pay(1), 1);
    Check.same("due no more", x.due(1), 0);
    Check.same("pay once", x.pay(1), 0);
    Check.same("all to the post of posting", Check.balances(x), "0 0 19");
    Check.refuses(x, IndexOutOfBoundsException.class, "pay(-1)", () -> x.pay(-1));
    Check.refuses(x, IndexOutOfBoundsException.class, "pay(3)", () -> x.pay(3));
    Check.refuses(x, IndexOutOfBoundsException.class, "due(-1)", () -> x.due(-1));
    Check.refuses(x, IndexOutOfBoundsException.class, "due(3)", () -> x.due(3));
    PostRoads y = Realms.peopled(0, 1);
    y.post(0, 1, 1, 1, 1, 0, 0);
    y.road(0, y.office(0), 5, 1, 1);
    Check.same("the price is as it was when posted", y.due(0), 6);
  }

  private static void waitsForPayment() {
    PostRoads x = Realms.peopled(0, 1);
    x.post(0, 1, 1, 1, 1, 0, 2);
    Check.same("handed over without payment", x.goOn(5), 0);
    Check.same("it waits for payment", Check.whereabouts(x, 0), "w1");
    x.pay(0);
    Check.same("paid later, to the post of posting", Check.balances(x), "6 0 0");
    Check.same("still waiting on the day of payment", Check.whereabouts(x, 0), "w1");
    Check.same("handed over the day after", x.goOn(1), 1);
    Check.same("proofs of one that is not registered", Check.proofs(x, 0), "a0@0 v201@6");
  }

  private static void senderOwesNothing() {
    PostRoads x = Realms.peopled(0, 1);
    x.post(0, 1, 1, 1, 1, 0, 2);
    Check.same("sent back unpaid and handed to the sender", x.goOn(10), 1);
    Check.same("it is the sender's", Check.whereabouts(x, 0), "b200");
    Check.same("it was not paid", x.due(0), 4);
    Check.same("nothing is shared with the sender", Check.balances(x), "2 0 0");
    Check.same("paid at any time", x.pay(0), 4);
    Check.same("which goes to the post of posting", Check.balances(x), "6 0 0");
  }

  private static void shares() {
    PostRoads x = Realms.peopled(0, 1, 2);
    x.post(0, 2, 2, 1, 1, 0, 1);
    x.goOn(3);
    Check.same("unshared as long as it is not handed over", Check.balances(x), "1 0 0");
    x.pay(0);
    Check.same("6 before it is shared", Check.balances(x), "6 0 0");
    x.goOn(1);
    Check.same("half for each post whose road it left by", Check.balances(x), "3 3 0");
  }

  private static void sharesByDays() {
    PostRoads x = Realms.offices(2, 1, 0, 2);
    x.road(0, 1, 2, 127, 1);
    x.road(1, 2, 4, 127, 1);
    x.road(2, 3, 1, 127, 1);
    x.person(0);
    x.person(3);
    x.post(0, 1, 3, 1, 0, 0, 50);
    x.goOn(8);
    Check.same("handed over", x.state(0), 'v');
    Check.same("cut shares, the rest with the post of posting", Check.balances(x), "7 28 15");
  }

  private static void nothingShared() {
    PostRoads x = Realms.offices(0, 1);
    x.person(1);
    x.person(1);
    x.post(0, 1, 1, 1, 1, 0, 100);
    x.goOn(1);
    Check.same("handed over without a road", x.state(0), 'v');
    Check.same("nothing is shared", Check.balances(x), "0 100 0");
  }

  private static void balanceRefused() {
    PostRoads x = new PostRoads();
    Check.refuses(x, IllegalArgumentException.class, "balance(-1)", () -> x.balance(-1));
    Check.refuses(x, IllegalArgumentException.class, "balance(3)", () -> x.balance(3));
  }
}
