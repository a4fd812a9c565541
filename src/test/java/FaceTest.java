import java.lang.reflect.Constructor;
import java.lang.reflect.Field;
import java.lang.reflect.Method;
import java.lang.reflect.Modifier;
import java.util.TreeSet;

/** The class's face is the document's, and nothing else of the class can be seen. */
final class FaceTest {
  private static final String[] FACE = {
      "int office(int)", "int road(int,int,int,int,int)", "boolean bar(int,int)", "int close(int)",
      "int days(int,int)", "int firstRoad(int,int)", "int person(int)", "int move(int,int)",
      "boolean hold(int,int)", "int home(int)", "int price(int,int,int,int,int)",
      "int post(int,int,int,int,int,int,int)", "int pay(int)", "boolean misthrow(int,int)", "int lose(int)",
      "int find(int)", "int claim(int)", "char state(int)", "int place(int)", "int due(int)",
      "int leftBack(int)", "int proofs(int)", "char proofAt(int,int)", "int proofPlace(int,int)",
      "int proofDay(int,int)", "boolean isProved()", "int goOn(int)", "int day()", "long balance(int)",
      "int at(int)", "float handedShare()", "double meanDays()"};

  private FaceTest() {
  }

  static void run() {
    TreeSet<String> due = new TreeSet<>();
    for (String line : FACE) {
      due.add(line);
    }
    TreeSet<String> found = new TreeSet<>();
    TreeSet<String> names = new TreeSet<>();
    for (Method method : PostRoads.class.getDeclaredMethods()) {
      if (Modifier.isPublic(method.getModifiers())) {
        found.add(method.getReturnType() + " " + signature(method));
        names.add(method.getName());
      }
    }
    Check.same("the public methods", found, due);
    for (Method method : PostRoads.class.getDeclaredMethods()) {
      boolean hidden = Modifier.isPrivate(method.getModifiers());
      Check.same(method.getName() + " is private or of the face", hidden || names.contains(method.getName()), true);
      Check.same(method.getName() + " is private by a name of the face",
          hidden && names.contains(method.getName()), false);
    }
    for (Field field : PostRoads.class.getDeclaredFields()) {
      Check.same(field.getName() + " is private", Modifier.isPrivate(field.getModifiers()), true);
    }
    Constructor<?>[] makers = PostRoads.class.getDeclaredConstructors();
    Check.same("constructors", makers.length, 1);
    Check.same("constructor's parameters", makers[0].getParameterCount(), 0);
    Check.same("final", Modifier.isFinal(PostRoads.class.getModifiers()), true);
  }

  private static String signature(Method method) {
    StringBuilder text = new StringBuilder(method.getName()).append('(');
    for (Class<?> type : method.getParameterTypes()) {
      text.append(text.charAt(text.length() - 1) == '(' ? "" : ",").append(type);
    }
    return text.append(')').toString();
  }
}
