/** Small realms that several tests begin with. */
final class Realms {
  static final int EVERY_DAY = 127;

  private Realms() {
  }

  /** Offices of these posts, without roads. */
  static PostRoads offices(int... posts) {
    PostRoads x = new PostRoads();
    for (int post : posts) {
      x.office(post);
    }
    return x;
  }

  /** Offices of these posts in a line, roads of one day to and fro: 0 from 0 to 1, 1 from 1 to 0, 2 from 1 to 2. */
  static PostRoads line(int... posts) {
    PostRoads x = offices(posts);
    for (int i = 0; i + 1 < posts.length; i++) {
      x.road(i, i + 1, 1, EVERY_DAY, 20);
      x.road(i + 1, i, 1, EVERY_DAY, 20);
    }
    return x;
  }

  /** A line with one person at each office, of the office's number. */
  static PostRoads peopled(int... posts) {
    PostRoads x = line(posts);
    for (int i = 0; i < posts.length; i++) {
      x.person(i);
    }
    return x;
  }

  /**
   * A realm on the day 14. Offices 0 to 3 and 5 are open, 4 is closed, no road leads from 5; person i lives at i, but 4
   * at 3. Items: 0 lost at the closed office, 1 handed to the addressee, 2 to the sender, 3 a dead letter, 4 lost on
   * road 0 and claimed, 5 lost, not registered, 6 lost, not insured, 7 lost on a road to the closed office, 8 at
   * customs, 9 waiting, 10 lost a day behind its posting, 11 on road 3, 12 at office 0, misthrown to road 0, 13 at 3.
   */
  static PostRoads busy() {
    PostRoads x = offices(0, 1, 2, 0, 1, 2);
    int[][] ends = {{0, 1}, {1, 0}, {1, 2}, {2, 1}, {0, 3}, {3, 0}, {3, 4}, {4, 3}, {0, 5}, {1, 4}};
    for (int[] end : ends) {
      x.road(end[0], end[1], 1, EVERY_DAY, 20);
    }
    for (int i = 0; i < 5; i++) {
      x.person(i);
    }
    postEarly(x);
    x.close(4);
    x.goOn(10);
    x.claim(4);
    postLate(x);
    x.bar(2, 3);
    x.bar(8, 30);
    x.hold(1, 2);
    return x;
  }

  private static void postEarly(PostRoads x) {
    insured(x, 4, 0, 0);
    insured(x, 0, 1, 1);
    insured(x, 1, 2, 0);
    insured(x, 3, 2, 0);
    insured(x, 0, 1, 1);
    x.post(0, 1, 1, 1, 0, 40, 999);
    letter(x, 0, 1, 1);
    insured(x, 3, 4, 4);
    x.hold(3, 30);
    for (int item : new int[] {0, 5, 6}) {
      x.lose(item);
    }
    x.goOn(1);
    x.lose(4);
    x.lose(7);
  }

  private static void postLate(PostRoads x) {
    x.post(0, 1, 1, 1, 6, 0, 999);
    x.post(0, 1, 1, 1, 2, 0, 0);
    x.move(2, 1);
    x.move(2, 2);
    x.goOn(2);
    insured(x, 0, 1, 1);
    x.lose(10);
    letter(x, 2, 0, 0);
    x.goOn(1);
    letter(x, 0, 3, 3);
    letter(x, 3, 0, 0);
    x.misthrow(12, 0);
  }

  /** A realm with 10 offices, 30 roads, 16 persons and 60 items: three roads from each office to the next ones. */
  static PostRoads full() {
    PostRoads x = offices(0, 1, 2, 0, 1, 2, 0, 1, 2, 0);
    for (int i = 0; i < 30; i++) {
      x.road(i / 3, (i / 3 + i % 3 + 1) % 10, 1, EVERY_DAY, 20);
    }
    for (int i = 0; i < 16; i++) {
      x.person(i % 10);
    }
    for (int i = 0; i < 60; i++) {
      letter(x, i % 16, 15 - i % 16, i % 10);
    }
    return x;
  }

  /** Posts a registered letter of the worth 40, paid in full. */
  static int insured(PostRoads x, int sender, int addressee, int written) {
    return x.post(sender, addressee, written, 1, 2, 40, 999);
  }

  /** Posts a registered letter that is paid in full, urgent and without worth. */
  static int letter(PostRoads x, int sender, int addressee, int written) {
    return x.post(sender, addressee, written, 1, 2, 0, 999);
  }
}
