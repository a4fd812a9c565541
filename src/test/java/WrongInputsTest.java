import java.lang.reflect.Method;

/** All promises: for any arguments, in several states, a call throws what its own line names, or nothing. */
final class WrongInputsTest {
  private static final int[] NUMBERS = {Integer.MIN_VALUE, -1, 0, 1, 7, 30, 1000, Integer.MAX_VALUE};
  private static final int[] FEW = {Integer.MIN_VALUE, -1, 0, 2, Integer.MAX_VALUE};

  private WrongInputsTest() {
  }

  static void run() {
    for (String call : Calls.ALL) {
      Method method = Calls.method(PostRoads.class, call);
      int places = method.getParameterCount();
      int[] numbers = places > 3 ? FEW : NUMBERS;
      int all = 1;
      for (int i = 0; i < places; i++) {
        all *= numbers.length;
      }
      for (int at = 0; at < all; at += places > 5 ? 7 : 1) {
        int[] arguments = new int[places];
        for (int i = 0, rest = at; i < places; i++, rest /= numbers.length) {
          arguments[i] = numbers[rest % numbers.length];
        }
        check(method, new PostRoads(), arguments);
        check(method, busy(), arguments);
      }
    }
  }

  private static void check(Method method, PostRoads realm, int[] arguments) {
    String before = Snapshot.of(realm);
    Object outcome = Calls.outcome(method, realm, arguments);
    String what = method.getName() + java.util.Arrays.toString(arguments);
    if (outcome instanceof String) {
      Check.same(what + " throws what it names", named(method).contains((String) outcome), true);
      Check.same(what + " leaves", Snapshot.of(realm), before);
    }
  }

  private static java.util.List<String> named(Method method) {
    java.util.List<String> names = new java.util.ArrayList<>();
    for (Class<?> type : method.getExceptionTypes()) {
      names.add(type.getSimpleName());
    }
    return names;
  }

  /** A realm with something in each state. */
  private static PostRoads busy() {
    PostRoads x = Realms.peopled(0, 1, 2, 0);
    x.close(3);
    x.post(0, 1, 1, 1, 7, 50, 0);
    x.post(0, 1, 1, 1, 2, 50, 0);
    x.post(0, 1, 1, 1, 2, 50, 999);
    x.goOn(2);
    x.post(0, 2, 2, 1, 2, 50, 999);
    x.post(0, 2, 2, 1, 2, 50, 999);
    x.goOn(1);
    x.lose(4);
    x.move(1, 2);
    x.hold(0, 3);
    x.bar(1, 3);
    return x;
  }
}
