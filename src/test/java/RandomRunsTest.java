import java.lang.reflect.Method;
import java.util.ArrayList;
import java.util.List;

/** All promises: long runs of calls, chosen by a counter, on PostRoads and on the model side by side. */
final class RandomRunsTest {
  private static final int RUNS = 400;
  private static final int CALLS = 512;

  private long seed;
  private int offices;
  private int roads;
  private int persons;
  private int items;
  private int kind;
  private PostRoads realm;
  private Model model;
  private final List<String> run = new ArrayList<>();

  private RandomRunsTest(long seed) {
    this.seed = seed;
  }

  static void run() {
    for (int i = 0; i < RUNS && Check.wrongAnswers() == 0; i++) {
      new RandomRunsTest(i * 7919L + 1).go(i);
    }
  }

  private int below(int bound) {
    seed = seed * 6364136223846793005L + 1442695040888963407L;
    return (int) ((seed >>> 33) % bound);
  }

  /** Runs differ by what they do often: first a realm is built, then any call is made. */
  private void go(int number) {
    realm = new PostRoads();
    model = new Model();
    kind = number % 4;
    build();
    for (int i = run.size(); i < CALLS && Check.wrongAnswers() == 0; i++) {
      make(choose());
    }
    if (Check.wrongAnswers() > 0) {
      System.out.println("in the run " + run);
      return;
    }
    compareAll();
  }

  private void build() {
    int size = 3 + below(6);
    for (int i = 0; i < size; i++) {
      make("office post");
    }
    for (int i = 0; i < 3 * size; i++) {
      make("road office office days5 week room");
    }
    for (int i = 0; i < 2 + below(8); i++) {
      make("person office");
    }
  }

  private String choose() {
    int chosen = below(100);
    if (chosen < 22) {
      return "goOn days20";
    }
    if (chosen < 36) {
      return "post person person office weight kind7 worth paid";
    }
    if (chosen < 62) {
      String[] often = kind == 0 ? new String[] {"move person office", "hold person days30", "close office"}
          : kind == 1 ? new String[] {"misthrow item road", "bar road days30", "move person office"}
          : kind == 2 ? new String[] {"lose item", "find item", "claim item", "misthrow item road"}
          : new String[] {"pay item", "hold person days30", "office post", "person office"};
      return often[below(often.length)];
    }
    return Calls.ALL[below(Calls.ALL.length)];
  }

  private int number(String kind) {
    boolean wild = below(40) == 0;
    if (wild) {
      int[] some = {-1, 0, 1, 10, 16, 21, 31, 61, 128, 1000, Integer.MIN_VALUE, Integer.MAX_VALUE};
      return some[below(some.length)];
    }
    switch (kind) {
      case "office":
        return below(Math.max(1, offices));
      case "road":
        return below(Math.max(1, roads));
      case "person":
        return below(Math.max(1, persons));
      case "item":
        return below(3) == 0 ? below(Math.max(1, items)) : Math.max(0, items - 1 - below(5));
      case "post":
        return below(3);
      case "days5":
        return 1 + below(below(2) == 0 ? 2 : 5);
      case "days30":
        return below(12);
      case "days20":
        return 1 + below(below(4) == 0 ? 8 : 2);
      case "week":
        return below(2) == 0 ? 127 : 1 + below(127);
      case "room":
        return 1 + below(3);
      case "weight":
        return 1 + below(20);
      case "kind3":
        return below(4);
      case "kind7":
        return below(8) | (below(2) == 0 ? 2 : 0);
      case "worth":
        return below(101);
      case "paid":
        return below(3) == 0 ? below(60) : 200 + below(800);
      default:
        return below(25);
    }
  }

  private void make(String call) {
    String[] kinds = Calls.kinds(call);
    int[] numbers = new int[kinds.length];
    for (int i = 0; i < kinds.length; i++) {
      numbers[i] = number(kinds[i]);
    }
    aim(call, numbers);
    Method mine = Calls.method(PostRoads.class, call);
    Object got = Calls.outcome(mine, realm, numbers);
    Object due = Calls.outcome(Calls.method(Model.class, call), model, numbers);
    String text = Calls.name(call) + java.util.Arrays.toString(numbers);
    run.add(text + "=" + got);
    Check.same(text, got, due);
    count(call, got);
    if (Calls.name(call).equals("goOn") || Calls.name(call).equals("close") || Calls.name(call).equals("find")) {
      compareItems();
    }
  }

  /** A misthrowing needs a road from where the item is, which chance alone seldom meets. */
  private void aim(String call, int[] numbers) {
    if (!call.startsWith("misthrow") || below(4) == 0 || numbers[0] < 0 || numbers[0] >= items) {
      return;
    }
    List<Integer> fit = new ArrayList<>();
    for (int i = 0; i < roads; i++) {
      if (model.leads(i) == model.place(numbers[0])) {
        fit.add(i);
      }
    }
    if (!fit.isEmpty()) {
      numbers[1] = fit.get(below(fit.size()));
    }
  }

  private void count(String call, Object got) {
    if (!(got instanceof Integer)) {
      return;
    }
    offices += call.startsWith("office") ? 1 : 0;
    roads += call.startsWith("road") ? 1 : 0;
    persons += call.startsWith("person") ? 1 : 0;
    items += call.startsWith("post") ? 1 : 0;
  }

  private void compareItems() {
    for (int i = 0; i < items; i++) {
      Check.same("state of " + i, realm.state(i), model.state(i));
      Check.same("place of " + i, realm.place(i), model.place(i));
      Check.same("proofs of " + i, realm.proofs(i), model.proofs(i));
      Check.same("due of " + i, realm.due(i), model.due(i));
      Check.same("left back of " + i, realm.leftBack(i), model.leftBack(i));
      Check.same("isProved", realm.isProved(), true);
    }
    for (int i = 0; i < 3; i++) {
      Check.same("balance of " + i, realm.balance(i), model.balance(i));
    }
  }

  private void compareAll() {
    compareItems();
    for (int i = 0; i < items; i++) {
      for (int j = 0; j < model.proofs(i); j++) {
        Check.same("kind of proof", realm.proofAt(i, j), model.proofAt(i, j));
        Check.same("place of proof", realm.proofPlace(i, j), model.proofPlace(i, j));
        Check.same("day of proof", realm.proofDay(i, j), model.proofDay(i, j));
      }
    }
    for (int i = 0; i < persons; i++) {
      Check.same("home of " + i, realm.home(i), model.home(i));
    }
  }
}
