/** Compares answers with those that are due and counts the wrong ones. */
final class Check {
  interface Call {
    Object run();
  }

  private static int wrong;
  private static int made;

  private Check() {
  }

  static int wrongAnswers() {
    return wrong;
  }

  static int answers() {
    return made;
  }

  static void same(String what, Object got, Object due) {
    made++;
    if (!due.equals(got)) {
      wrong++;
      System.out.println(what + " answered " + got + ", due is " + due);
    }
  }

  /** The call throws exactly this exception, no class below it, and changes nothing that can be asked. */
  static void refuses(PostRoads realm, Class<? extends RuntimeException> due, String what, Call call) {
    String before = Snapshot.of(realm);
    same(what, outcome(call), due.getSimpleName());
    same(what + " leaves", Snapshot.of(realm), before);
  }

  /** The call's answer, or the simple name of the exception's own class. */
  static Object outcome(Call call) {
    try {
      return call.run();
    } catch (RuntimeException e) {
      return name(e);
    }
  }

  /** An exception must come from a throw in the class (or the model) and not from the library below it. */
  static String name(Throwable thrown) {
    String name = thrown.getClass().getSimpleName();
    StackTraceElement[] trace = thrown.getStackTrace();
    String thrower = trace.length > 0 ? trace[0].getClassName() : "";
    boolean own = thrower.startsWith("PostRoads") || thrower.startsWith("Model");
    return own ? name : name + " of the library";
  }

  /** The kinds, places and days of an item's proofs, as "a0@0 d100@1". */
  static String proofs(PostRoads realm, int item) {
    StringBuilder text = new StringBuilder();
    for (int i = 0; i < realm.proofs(item); i++) {
      text.append(i == 0 ? "" : " ").append(realm.proofAt(item, i)).append(realm.proofPlace(item, i));
      text.append('@').append(realm.proofDay(item, i));
    }
    return text.toString();
  }

  /** State and place of an item, as "r100". */
  static String whereabouts(PostRoads realm, int item) {
    return "" + realm.state(item) + realm.place(item);
  }

  static String balances(PostRoads realm) {
    return realm.balance(0) + " " + realm.balance(1) + " " + realm.balance(2);
  }
}
