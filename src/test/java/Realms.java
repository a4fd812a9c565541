/** Small realms that several tests begin with. */
final class Realms {
  static final int EVERY_DAY = 127;

  private Realms() {
  }

  /** Offices of these posts, without roads. */
  static PostRoads offices(int... posts) {
    PostRoads x = new PostRoads();
    for (int post : posts) {
      x.office(post);
    }
    return x;
  }

  /** Offices of these posts in a line, roads of one day to and fro: 0 from 0 to 1, 1 from 1 to 0, 2 from 1 to 2. */
  static PostRoads line(int... posts) {
    PostRoads x = offices(posts);
    for (int i = 0; i + 1 < posts.length; i++) {
      x.road(i, i + 1, 1, EVERY_DAY, 20);
      x.road(i + 1, i, 1, EVERY_DAY, 20);
    }
    return x;
  }

  /** A line with one person at each office, of the office's number. */
  static PostRoads peopled(int... posts) {
    PostRoads x = line(posts);
    for (int i = 0; i < posts.length; i++) {
      x.person(i);
    }
    return x;
  }

  /** Posts a registered letter that is paid in full, urgent and without worth. */
  static int letter(PostRoads x, int sender, int addressee, int written) {
    return x.post(sender, addressee, written, 1, 2, 0, 999);
  }
}
