/** All that can be asked of a realm without changing it, as one text. */
final class Snapshot {
  private Snapshot() {
  }

  static String of(PostRoads x) {
    StringBuilder text = new StringBuilder();
    text.append(x.day()).append(' ').append(x.isProved()).append(' ').append(Check.balances(x));
    text.append(' ').append(quick(x::handedShare)).append(' ').append(quick(x::meanDays));
    int offices = offices(x);
    for (int i = 0; i < offices; i++) {
      int from = i;
      text.append('\n').append(x.at(i));
      for (int j = 0; j < offices; j++) {
        int to = j;
        text.append(' ').append(quick(() -> x.days(from, to)));
        text.append(' ').append(quick(() -> x.firstRoad(from, to)));
        text.append(' ').append(quick(() -> x.price(from, to, 1, 1, 0)));
      }
    }
    for (int i = 0; i < 16; i++) {
      int person = i;
      text.append(' ').append(quick(() -> x.home(person)));
    }
    for (int i = 0; i < 60 && exists(x, i); i++) {
      text.append('\n').append(Check.whereabouts(x, i)).append(' ').append(x.due(i)).append(' ');
      text.append(x.leftBack(i)).append(' ').append(Check.proofs(x, i));
    }
    return text.toString();
  }

  /** A snapshot meets many exceptions, and to look where each comes from would take most of the tests' time. */
  private static Object quick(Check.Call call) {
    try {
      return call.run();
    } catch (RuntimeException e) {
      return e.getClass().getSimpleName();
    }
  }

  private static int offices(PostRoads x) {
    int count = 0;
    for (int i = 0; i < 10; i++) {
      int office = i;
      count += quick(() -> x.at(office)) instanceof Integer ? 1 : 0;
    }
    return count;
  }

  private static boolean exists(PostRoads x, int item) {
    return !"IndexOutOfBoundsException".equals(quick(() -> x.state(item)));
  }
}
