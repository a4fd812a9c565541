import java.util.ArrayList;
import java.util.List;
import java.util.NoSuchElementException;

/** The document's rules once more, in its own order and without regard to speed: what PostRoads is compared with. */
final class Model {
  private static final class Thing {
    int number;
    int sender;
    int addressee;
    int goal;
    int origin;
    int originPost;
    boolean urgent;
    boolean registered;
    boolean forbidden;
    int worth;
    int got;
    int owed;
    int postedOn;
    char state = 'o';
    int office;
    int road;
    int eventDay;
    boolean lostOnRoad;
    boolean back;
    boolean claimed;
    boolean untouched;
    int told = -1;
    int waits;
    int onward;
    int left;
    int[] times = new int[10];
    int[] shares = new int[3];
    List<int[]> proofs = new ArrayList<>();

    boolean here(int where) {
      return (state == 'o' || state == 'w') && office == where;
    }

    int whereabouts() {
      if (state == 'v') {
        return 200 + addressee;
      }
      if (state == 'b') {
        return 200 + sender;
      }
      return state == 'r' || (state == 'l' && lostOnRoad) ? 100 + road : office;
    }
  }

  private final List<Integer> posts = new ArrayList<>();
  private final boolean[] closed = new boolean[10];
  private final List<int[]> roads = new ArrayList<>();
  private final int[] lastBarred = new int[30];
  private final List<Integer> homes = new ArrayList<>();
  private final int[] lastHeld = new int[16];
  private final int[][] knows = new int[10][16];
  private final List<Thing> things = new ArrayList<>();
  private final long[] money = new long[3];
  private int date;

  Model() {
    java.util.Arrays.fill(lastBarred, -1);
    java.util.Arrays.fill(lastHeld, -1);
    for (int[] row : knows) {
      java.util.Arrays.fill(row, -1);
    }
  }

  // ---- checks, in the order of the document

  private static void range(int number, int low, int high) {
    if (number < low || number > high) {
      throw new IllegalArgumentException();
    }
  }

  private static void there(int number, int count) {
    if (number < 0 || number >= count) {
      throw new IndexOutOfBoundsException();
    }
  }

  private void usable(int office) {
    there(office, posts.size());
    if (closed[office]) {
      throw new IndexOutOfBoundsException();
    }
  }

  private Thing thing(int item) {
    there(item, things.size());
    return things.get(item);
  }

  private static void allow(boolean can) {
    if (!can) {
      throw new UnsupportedOperationException();
    }
  }

  /** The office from which a road leads. */
  int leads(int road) {
    return roads.get(road)[0];
  }

  // ---- ways, by trying all of them

  private int bestDays;
  private List<Integer> bestStops;

  private void way(int from, int to) {
    bestDays = Integer.MAX_VALUE;
    bestStops = null;
    List<Integer> stops = new ArrayList<>();
    stops.add(from);
    search(to, 0, stops);
  }

  private void search(int to, int sum, List<Integer> stops) {
    int here = stops.get(stops.size() - 1);
    if (sum > bestDays) {
      return;
    }
    if (here == to) {
      if (sum < bestDays || lower(stops, bestStops)) {
        bestDays = sum;
        bestStops = new ArrayList<>(stops);
      }
      return;
    }
    for (int[] road : roads) {
      if (road[0] == here && !closed[road[0]] && !closed[road[1]] && !stops.contains(road[1])) {
        stops.add(road[1]);
        search(to, sum + road[2], stops);
        stops.remove(stops.size() - 1);
      }
    }
  }

  private static boolean lower(List<Integer> some, List<Integer> others) {
    for (int i = 0; i < some.size() && i < others.size(); i++) {
      if (!some.get(i).equals(others.get(i))) {
        return some.get(i) < others.get(i);
      }
    }
    return false;
  }

  private int roadBetween(int from, int to) {
    for (int i = 0; i < roads.size(); i++) {
      if (roads.get(i)[0] == from && roads.get(i)[1] == to) {
        return i;
      }
    }
    return -1;
  }

  private int roadOfWay(int from, int to) {
    way(from, to);
    return bestStops == null || from == to ? -1 : roadBetween(from, bestStops.get(1));
  }

  private int cost(int from, int to, int weight, int kind, int worth) {
    way(from, to);
    int zone = bestStops == null ? 9 : (int) Math.ceil(bestDays / 2.0);
    int price = (2 + weight) * (1 + zone) * (kind % 2 == 0 ? 2 : 1);
    return price + (kind / 2 % 2 == 1 ? 5 : 0) + (int) Math.ceil(worth / 10.0);
  }

  // ---- the face

  int office(int post) {
    range(post, 0, 2);
    if (posts.size() == 10) {
      throw new IllegalStateException();
    }
    posts.add(post);
    return posts.size() - 1;
  }

  int road(int from, int to, int days, int week, int room) {
    usable(from);
    usable(to);
    if (from == to) {
      throw new IllegalArgumentException();
    }
    range(days, 1, 5);
    range(week, 1, 127);
    range(room, 1, 20);
    if (roadBetween(from, to) >= 0 || roads.size() == 30) {
      throw new IllegalStateException();
    }
    roads.add(new int[] {from, to, days, week, room});
    return roads.size() - 1;
  }

  boolean bar(int road, int days) {
    there(road, roads.size());
    range(days, 0, 30);
    boolean before = date <= lastBarred[road];
    lastBarred[road] = date + days - 1;
    return before;
  }

  int close(int office) {
    usable(office);
    int next = -1;
    int least = Integer.MAX_VALUE;
    for (int i = 0; i < posts.size(); i++) {
      way(office, i);
      if (i != office && !closed[i] && bestStops != null && bestDays < least) {
        least = bestDays;
        next = i;
      }
    }
    allow(next >= 0);
    for (Thing t : things) {
      allow(!(t.state == 'r' && roads.get(t.road)[1] == office));
      allow(!(t.state == 'c' && t.office == office));
    }
    closed[office] = true;
    for (int p = 0; p < homes.size(); p++) {
      if (homes.get(p) == office) {
        homes.set(p, next);
        knows[office][p] = next;
      }
    }
    learn(office, next);
    for (Thing t : things) {
      bringOver(t, office, next);
    }
    return next;
  }

  private void learn(int office, int next) {
    for (int p = 0; p < homes.size(); p++) {
      if (knows[next][p] == -1 || knows[next][p] == office) {
        knows[next][p] = knows[office][p] == next ? -1 : knows[office][p];
      }
      for (int[] row : knows) {
        row[p] = row[p] == office ? next : row[p];
      }
    }
  }

  private void bringOver(Thing t, int office, int next) {
    if (t.told >= 0 && (roads.get(t.told)[0] == office || roads.get(t.told)[1] == office)) {
      t.told = -1;
    }
    t.goal = t.goal == office ? next : t.goal;
    t.origin = t.origin == office ? next : t.origin;
    if (t.here(office)) {
      t.office = next;
      t.state = 'o';
      t.waits = 0;
      prove(t, 'r');
    }
  }

  int days(int from, int to) {
    usable(from);
    usable(to);
    way(from, to);
    if (bestStops == null) {
      throw new NoSuchElementException();
    }
    return bestDays;
  }

  int firstRoad(int from, int to) {
    usable(from);
    usable(to);
    int road = roadOfWay(from, to);
    if (road < 0) {
      throw new NoSuchElementException();
    }
    return road;
  }

  int person(int office) {
    usable(office);
    if (homes.size() == 16) {
      throw new IllegalStateException();
    }
    homes.add(office);
    return homes.size() - 1;
  }

  int move(int person, int office) {
    there(person, homes.size());
    usable(office);
    int before = homes.get(person);
    if (before == office) {
      throw new IllegalArgumentException();
    }
    homes.set(person, office);
    knows[before][person] = office;
    return before;
  }

  boolean hold(int person, int days) {
    there(person, homes.size());
    range(days, 0, 30);
    boolean before = date <= lastHeld[person];
    lastHeld[person] = date + days - 1;
    return before;
  }

  int home(int person) {
    there(person, homes.size());
    return homes.get(person);
  }

  int price(int from, int to, int weight, int kind, int worth) {
    usable(from);
    usable(to);
    range(weight, 1, 20);
    range(kind, 0, 3);
    range(worth, 0, 100);
    return cost(from, to, weight, kind, worth);
  }

  int post(int sender, int addressee, int written, int weight, int kind, int worth, int paid) {
    there(sender, homes.size());
    there(addressee, homes.size());
    usable(written);
    range(weight, 1, 20);
    range(kind, 0, 7);
    range(worth, 0, 100);
    range(paid, 0, 999);
    if (things.size() == 60) {
      throw new IllegalStateException();
    }
    Thing t = new Thing();
    t.number = things.size();
    t.sender = sender;
    t.addressee = addressee;
    t.goal = written;
    t.origin = homes.get(sender);
    t.office = t.origin;
    t.originPost = posts.get(t.origin);
    t.urgent = kind % 2 == 0;
    t.registered = kind / 2 % 2 == 1;
    t.forbidden = kind >= 4;
    t.worth = worth;
    t.postedOn = date;
    t.times[t.origin] = 1;
    t.owed = Math.max(0, cost(t.origin, written, weight, kind, worth) - paid);
    t.got = paid;
    money[t.originPost] += paid;
    things.add(t);
    prove(t, 'a');
    return t.number;
  }

  int pay(int item) {
    Thing t = thing(item);
    int owed = t.owed;
    t.owed = 0;
    t.got += owed;
    money[t.originPost] += owed;
    return owed;
  }

  boolean misthrow(int item, int road) {
    Thing t = thing(item);
    there(road, roads.size());
    int[] r = roads.get(road);
    allow(t.state == 'o' && t.office == r[0] && !closed[r[1]]);
    int before = t.told >= 0 ? t.told : roadOfWay(t.office, t.goal);
    t.told = road;
    return before >= 0 && before != road;
  }

  int lose(int item) {
    Thing t = thing(item);
    allow("vbul".indexOf(t.state) < 0);
    t.lostOnRoad = t.state == 'r';
    t.state = 'l';
    t.told = -1;
    return t.lostOnRoad ? roads.get(t.road)[1] : t.office;
  }

  int find(int item) {
    Thing t = thing(item);
    allow(t.state == 'l');
    int office = t.lostOnRoad ? roads.get(t.road)[1] : t.office;
    allow(!closed[office]);
    t.office = office;
    t.state = 'o';
    t.waits = 0;
    prove(t, 'r');
    if (t.claimed) {
      sendBack(t);
    }
    return office;
  }

  int claim(int item) {
    Thing t = thing(item);
    allow(t.worth > 0 && t.registered && date >= t.postedOn + 10 && t.state == 'l' && !t.claimed);
    int place = t.proofs.get(t.proofs.size() - 1)[1];
    int payer = posts.get(place >= 100 ? roads.get(place - 100)[0] : place);
    money[payer] -= t.worth;
    t.claimed = true;
    t.proofs.add(new int[] {'l', place, date});
    return payer;
  }

  char state(int item) {
    return thing(item).state;
  }

  int place(int item) {
    return thing(item).whereabouts();
  }

  int due(int item) {
    return thing(item).owed;
  }

  int leftBack(int item) {
    return thing(item).left;
  }

  int proofs(int item) {
    return thing(item).proofs.size();
  }

  private int[] proof(int item, int index) {
    List<int[]> proofs = thing(item).proofs;
    if (index < 0 || index >= proofs.size()) {
      throw new NoSuchElementException();
    }
    return proofs.get(index);
  }

  char proofAt(int item, int index) {
    return (char) proof(item, index)[0];
  }

  int proofPlace(int item, int index) {
    return proof(item, index)[1];
  }

  int proofDay(int item, int index) {
    return proof(item, index)[2];
  }

  boolean isProved() {
    return true;
  }

  int goOn(int days) {
    range(days, 1, 20);
    int before = count("vb");
    for (int i = 0; i < days; i++) {
      nextDay();
    }
    return count("vb") - before;
  }

  int day() {
    return date;
  }

  long balance(int post) {
    range(post, 0, 2);
    return money[post];
  }

  int at(int office) {
    there(office, posts.size());
    int count = 0;
    for (Thing t : things) {
      count += t.here(office) || (t.state == 'c' && t.office == office) ? 1 : 0;
    }
    return count;
  }

  float handedShare() {
    if (things.isEmpty()) {
      throw new ArithmeticException();
    }
    return (float) count("v") / (float) things.size();
  }

  double meanDays() {
    int sum = 0;
    for (Thing t : things) {
      sum += t.state == 'v' ? t.eventDay - t.postedOn : 0;
    }
    if (count("v") == 0) {
      throw new ArithmeticException();
    }
    return (double) sum / (double) count("v");
  }

  private int count(String states) {
    int count = 0;
    for (Thing t : things) {
      count += states.indexOf(t.state) >= 0 ? 1 : 0;
    }
    return count;
  }

  // ---- a day

  private void prove(Thing t, char kind) {
    if (t.registered || "avb".indexOf(kind) >= 0) {
      t.proofs.add(new int[] {kind, t.whereabouts(), date});
    }
  }

  private void sendBack(Thing t) {
    t.waits = 0;
    t.untouched = true;
    if (t.back) {
      t.state = 'u';
      prove(t, 'u');
    } else {
      t.state = 'o';
      t.back = true;
      t.goal = t.origin;
      prove(t, 's');
    }
  }

  private void nextDay() {
    date++;
    for (Thing t : things) {
      t.untouched = false;
    }
    for (Thing t : things) {
      if (t.state == 'c' && t.eventDay == date) {
        t.state = 'o';
        prove(t, 'o');
        sendBack(t);
      }
    }
    for (int r = 0; r < roads.size(); r++) {
      for (Thing t : things) {
        if (t.state == 'r' && t.road == r && t.eventDay == date) {
          come(t, roads.get(r));
        }
      }
    }
    for (int o = 0; o < posts.size(); o++) {
      for (boolean urgent : new boolean[] {true, false}) {
        for (Thing t : things) {
          if (t.urgent == urgent && t.here(o) && !t.untouched) {
            handle(t);
          }
        }
      }
    }
    for (int r = 0; r < roads.size(); r++) {
      if ((roads.get(r)[3] & 1 << date % 7) != 0 && date > lastBarred[r]) {
        start(r);
      }
    }
  }

  private void come(Thing t, int[] road) {
    t.state = 'o';
    t.office = road[1];
    t.waits = 0;
    t.times[road[1]]++;
    prove(t, 'r');
    if (t.times[road[1]] == 3) {
      sendBack(t);
    } else if (!posts.get(road[0]).equals(posts.get(road[1])) && t.forbidden && !t.back) {
      t.state = 'c';
      t.eventDay = date + 3;
      prove(t, 'c');
    }
  }

  private void handle(Thing t) {
    if (t.goal != t.office) {
      return;
    }
    int person = t.back ? t.sender : t.addressee;
    if (homes.get(person) == t.office) {
      if (date <= lastHeld[person] || (!t.back && t.owed > 0)) {
        t.state = 'w';
        t.waits++;
        if (t.waits == 8) {
          sendBack(t);
        }
      } else {
        handOver(t);
      }
    } else if (knows[t.office][person] >= 0 && ++t.onward < 4) {
      t.state = 'o';
      t.waits = 0;
      t.goal = knows[t.office][person];
      prove(t, 'f');
    } else {
      sendBack(t);
    }
  }

  private void handOver(Thing t) {
    t.state = t.back ? 'b' : 'v';
    t.eventDay = date;
    prove(t, t.state);
    int sum = t.shares[0] + t.shares[1] + t.shares[2];
    if (t.state == 'v' && sum > 0) {
      long rest = t.got;
      money[t.originPost] -= t.got;
      for (int p = 0; p < 3; p++) {
        money[p] += (long) t.got * t.shares[p] / sum;
        rest -= (long) t.got * t.shares[p] / sum;
      }
      money[t.originPost] += rest;
    }
  }

  private void start(int r) {
    int[] road = roads.get(r);
    int taken = 0;
    for (boolean urgent : new boolean[] {true, false}) {
      for (Thing t : things) {
        boolean wants = t.urgent == urgent && t.state == 'o' && t.office == road[0]
            && (t.told >= 0 ? t.told : roadOfWay(t.office, t.goal)) == r;
        if (wants && taken == road[4]) {
          t.left++;
        } else if (wants) {
          taken++;
          t.told = -1;
          t.state = 'r';
          t.road = r;
          t.eventDay = date + road[2];
          t.shares[posts.get(road[0])] += road[2];
          prove(t, 'd');
        }
      }
    }
  }
}
