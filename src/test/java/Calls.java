import java.lang.reflect.InvocationTargetException;
import java.lang.reflect.Method;

/** Calls a method of a realm, or of the model of one, by its name. */
final class Calls {
  /** The methods of the face whose arguments are whole numbers, with what each argument means. */
  static final String[] ALL = {
      "office post", "road office office days5 week room", "bar road days30", "close office", "days office office",
      "firstRoad office office", "person office", "move person office", "hold person days30", "home person",
      "price office office weight kind3 worth", "post person person office weight kind7 worth paid", "pay item",
      "misthrow item road", "lose item", "find item", "claim item", "state item", "place item", "due item",
      "leftBack item", "proofs item", "proofAt item index", "proofPlace item index", "proofDay item index",
      "isProved", "goOn days20", "day", "balance post", "at office", "handedShare", "meanDays"};

  private Calls() {
  }

  static String name(String call) {
    int end = call.indexOf(' ');
    return end < 0 ? call : call.substring(0, end);
  }

  static String[] kinds(String call) {
    int end = call.indexOf(' ');
    return end < 0 ? new String[0] : call.substring(end + 1).split(" ");
  }

  static Method method(Class<?> type, String call) {
    Class<?>[] types = new Class<?>[kinds(call).length];
    java.util.Arrays.fill(types, int.class);
    try {
      return type.getDeclaredMethod(name(call), types);
    } catch (NoSuchMethodException e) {
      throw new IllegalStateException(e);
    }
  }

  /** The outcome of a call that is written with its numbers, as "bar 0 30". */
  static Object outcome(PostRoads realm, String call) {
    String[] kinds = kinds(call);
    int[] numbers = new int[kinds.length];
    for (int i = 0; i < kinds.length; i++) {
      numbers[i] = Integer.parseInt(kinds[i]);
    }
    return outcome(method(PostRoads.class, call), realm, numbers);
  }

  /** The answer, or the simple name of the exception's own class. */
  static Object outcome(Method method, Object realm, int... numbers) {
    Object[] boxed = new Object[numbers.length];
    for (int i = 0; i < numbers.length; i++) {
      boxed[i] = numbers[i];
    }
    try {
      return method.invoke(realm, boxed);
    } catch (InvocationTargetException e) {
      return Check.name(e.getCause());
    } catch (IllegalAccessException e) {
      throw new IllegalStateException(e);
    }
  }
}
