import java.util.ArrayList;
import java.util.Arrays;
import java.util.NoSuchElementException;

/** The mail of a realm of several posts; ../shared/DOC.md says what each call promises. */
public final class PostRoads {
  private static final int POSTS = 3;
  private static final int MAX_OFFICES = 10;
  private static final int MAX_ROADS = 30;
  private static final int MAX_PERSONS = 16;
  private static final int MAX_ITEMS = 60;
  /** Far above what 512 calls can prove of one item: each call but goOn adds two at most. */
  private static final int MAX_PROOFS = 4096;

  private static final int MAX_ROAD_DAYS = 5;
  private static final int MAX_WEEK = 127;
  private static final int MAX_ROOM = 20;
  private static final int MAX_TOLD_DAYS = 30;
  private static final int MAX_STEP = 20;
  private static final int MAX_WEIGHT = 20;
  private static final int MAX_WORTH = 100;
  private static final int MAX_PAID = 999;
  private static final int MAX_PRICE_KIND = 3;
  private static final int MAX_POST_KIND = 7;
  private static final int NOT_URGENT = 1;
  private static final int REGISTERED = 2;
  private static final int FORBIDDEN = 4;

  private static final int WEEK_DAYS = 7;
  private static final int CUSTOMS_DAYS = 3;
  private static final int COMINGS_TO_TURN = 3;
  private static final int WAITS_TO_TURN = 8;
  private static final int MAX_SENT_ON = 3;
  private static final int CLAIM_DAYS = 10;
  private static final int ZONE_WITHOUT_WAY = 9;
  private static final int ROAD_PLACE = 100;
  private static final int PERSON_PLACE = 200;

  private static final int NONE = -1;
  private static final int NO_WAY = 1000000;

  private static final char AT_OFFICE = 'o';
  private static final char WAITING = 'w';
  private static final char ON_ROAD = 'r';
  private static final char AT_CUSTOMS = 'c';
  private static final char TO_ADDRESSEE = 'v';
  private static final char TO_SENDER = 'b';
  private static final char DEAD = 'u';
  private static final char LOST = 'l';

  private static final char PROOF_POSTED = 'a';
  private static final char PROOF_LEAVES = 'd';
  private static final char PROOF_COMES = 'r';
  private static final char PROOF_CUSTOMS = 'c';
  private static final char PROOF_CLEARED = 'o';
  private static final char PROOF_BACK = 's';
  private static final char PROOF_ON = 'f';
  private static final char PROOF_DEAD = 'u';
  private static final char PROOF_LOST = 'l';

  private final ArrayList<Office> offices = new ArrayList<>();
  private final ArrayList<Road> roads = new ArrayList<>();
  private final ArrayList<Person> persons = new ArrayList<>();
  private final ArrayList<Item> items = new ArrayList<>();
  private final Ways ways = new Ways();
  private final Row balances = new Row(POSTS, 0);
  private int today;
  private int handedToAddressees;
  private int handedToSenders;
  private int daysToAddressees;

  public PostRoads() {
  }

  // ---- offices and roads

  public int office(int post) throws IllegalArgumentException, IllegalStateException {
    if (outside(post, 0, POSTS - 1)) {
      throw new IllegalArgumentException("no such post");
    }
    if (offices.size() >= MAX_OFFICES) {
      throw new IllegalStateException("no more offices");
    }
    Office made = new Office(offices.size(), post);
    offices.add(made);
    ways.measure(offices, roads);
    return made.number;
  }

  public int road(int from, int to, int days, int week, int room)
      throws IndexOutOfBoundsException, IllegalArgumentException, IllegalStateException {
    Office start = openOffice(from);
    Office end = openOffice(to);
    if (start == end || outside(days, 1, MAX_ROAD_DAYS) || outside(week, 1, MAX_WEEK)
        || outside(room, 1, MAX_ROOM)) {
      throw new IllegalArgumentException("the same office, or a number out of range");
    }
    if (roads.size() >= MAX_ROADS || isJoined(start, end)) {
      throw new IllegalStateException("there is one, or no more roads");
    }
    Road made = new Road(roads.size(), start, end, days, week, room);
    roads.add(made);
    ways.measure(offices, roads);
    return made.number;
  }

  public boolean bar(int road, int days) throws IndexOutOfBoundsException, IllegalArgumentException {
    Road barred = builtRoad(road);
    if (outside(days, 0, MAX_TOLD_DAYS)) {
      throw new IllegalArgumentException("days out of range");
    }
    boolean before = barred.freeFrom > today;
    barred.freeFrom = today + days;
    return before;
  }

  public int close(int office) throws IndexOutOfBoundsException, UnsupportedOperationException {
    Office old = openOffice(office);
    Office heir = nearestTo(old);
    if (heir == null || isAwaited(old)) {
      throw new UnsupportedOperationException("it cannot be closed");
    }
    movePersons(old, heir);
    handKnowledge(old, heir);
    for (int i = 0; i < items.size(); i++) {
      redirect(items.get(i), old, heir);
    }
    old.open = false;
    ways.measure(offices, roads);
    return heir.number;
  }

  public int days(int from, int to) throws IndexOutOfBoundsException, NoSuchElementException {
    int length = ways.lengthBetween(openOffice(from), openOffice(to));
    if (length >= NO_WAY) {
      throw new NoSuchElementException("no way");
    }
    return length;
  }

  public int firstRoad(int from, int to) throws IndexOutOfBoundsException, NoSuchElementException {
    int first = ways.firstBetween(openOffice(from), openOffice(to));
    if (first == NONE) {
      throw new NoSuchElementException("no way, or the same office");
    }
    return first;
  }

  // ---- persons

  public int person(int office) throws IndexOutOfBoundsException, IllegalStateException {
    Office home = openOffice(office);
    if (persons.size() >= MAX_PERSONS) {
      throw new IllegalStateException("no more persons");
    }
    Person made = new Person(persons.size(), home);
    persons.add(made);
    return made.number;
  }

  public int move(int person, int office) throws IndexOutOfBoundsException, IllegalArgumentException {
    Person mover = addedPerson(person);
    Office next = openOffice(office);
    Office before = mover.lives;
    if (before == next) {
      throw new IllegalArgumentException("it lives there");
    }
    before.known.write(mover.number, next.number);
    mover.lives = next;
    return before.number;
  }

  public boolean hold(int person, int days) throws IndexOutOfBoundsException, IllegalArgumentException {
    Person holder = addedPerson(person);
    if (outside(days, 0, MAX_TOLD_DAYS)) {
      throw new IllegalArgumentException("days out of range");
    }
    boolean before = holder.takesFrom > today;
    holder.takesFrom = today + days;
    return before;
  }

  public int home(int person) throws IndexOutOfBoundsException {
    return addedPerson(person).lives.number;
  }

  // ---- items

  public int price(int from, int to, int weight, int kind, int worth)
      throws IndexOutOfBoundsException, IllegalArgumentException {
    Office start = openOffice(from);
    Office end = openOffice(to);
    if (outside(weight, 1, MAX_WEIGHT) || outside(kind, 0, MAX_PRICE_KIND) || outside(worth, 0, MAX_WORTH)) {
      throw new IllegalArgumentException("a number out of range");
    }
    return postage(ways.lengthBetween(start, end), weight, kind, worth);
  }

  public int post(int sender, int addressee, int written, int weight, int kind, int worth, int paid)
      throws IndexOutOfBoundsException, IllegalArgumentException, IllegalStateException {
    Person giver = addedPerson(sender);
    Person taker = addedPerson(addressee);
    Office goal = openOffice(written);
    if (outside(weight, 1, MAX_WEIGHT) || outside(kind, 0, MAX_POST_KIND) || outside(worth, 0, MAX_WORTH)
        || outside(paid, 0, MAX_PAID)) {
      throw new IllegalArgumentException("a number out of range");
    }
    if (items.size() >= MAX_ITEMS) {
      throw new IllegalStateException("no more items");
    }
    Item made = new Item(giver, taker, new Trip(giver.lives, goal), kind, worth, today);
    int asked = postage(ways.lengthBetween(giver.lives, goal), weight, kind, worth);
    made.paid = paid;
    made.owed = Math.max(0, asked - paid);
    balances.raise(made.firstPost, paid);
    made.prove(PROOF_POSTED, today);
    items.add(made);
    return items.size() - 1;
  }

  public int pay(int item) throws IndexOutOfBoundsException {
    Item bought = postedItem(item);
    int owed = bought.owed;
    bought.paid += owed;
    bought.owed = 0;
    balances.raise(bought.firstPost, owed);
    return owed;
  }

  public boolean misthrow(int item, int road) throws IndexOutOfBoundsException, UnsupportedOperationException {
    Trip trip = postedItem(item).trip;
    Road told = builtRoad(road);
    if (trip.state != AT_OFFICE || trip.office != told.from || !told.to.open) {
      throw new UnsupportedOperationException("it cannot go that road");
    }
    Road before = nextRoad(trip);
    trip.misthrown = told;
    return before != null && before != told;
  }

  public int lose(int item) throws IndexOutOfBoundsException, UnsupportedOperationException {
    Trip trip = postedItem(item).trip;
    if (trip.isEnded() || trip.state == LOST) {
      throw new UnsupportedOperationException("it cannot be lost");
    }
    trip.state = LOST;
    trip.misthrown = null;
    return trip.nextOffice().number;
  }

  public int find(int item) throws IndexOutOfBoundsException, UnsupportedOperationException {
    Item found = postedItem(item);
    Trip trip = found.trip;
    Office office = trip.nextOffice();
    if (trip.state != LOST || !office.open) {
      throw new UnsupportedOperationException("it cannot be found");
    }
    putAt(found, office);
    if (found.claimed) {
      sendBack(found);
    }
    return office.number;
  }

  public int claim(int item) throws IndexOutOfBoundsException, UnsupportedOperationException {
    Item lost = postedItem(item);
    if (!isClaimable(lost)) {
      throw new UnsupportedOperationException("no claim can be made");
    }
    // A lost item has not changed hands since its last proof, so this is where that proof tells.
    Road road = lost.trip.road;
    Office charged = road == null ? lost.trip.office : road.from;
    lost.claimed = true;
    balances.raise(charged.owner, -lost.worth);
    lost.prove(PROOF_LOST, today);
    return charged.owner;
  }

  public char state(int item) throws IndexOutOfBoundsException {
    return postedItem(item).trip.state;
  }

  public int place(int item) throws IndexOutOfBoundsException {
    return postedItem(item).placeNumber();
  }

  public int due(int item) throws IndexOutOfBoundsException {
    return postedItem(item).owed;
  }

  public int leftBack(int item) throws IndexOutOfBoundsException {
    return postedItem(item).trip.leftBehind;
  }

  // ---- proofs

  public int proofs(int item) throws IndexOutOfBoundsException {
    return postedItem(item).proofs.count;
  }

  public char proofAt(int item, int index) throws IndexOutOfBoundsException, NoSuchElementException {
    Proofs proofs = postedItem(item).proofs;
    if (!proofs.has(index)) {
      throw new NoSuchElementException("no such proof");
    }
    return proofs.kindOf(index);
  }

  public int proofPlace(int item, int index) throws IndexOutOfBoundsException, NoSuchElementException {
    Proofs proofs = postedItem(item).proofs;
    if (!proofs.has(index)) {
      throw new NoSuchElementException("no such proof");
    }
    return proofs.placeOf(index);
  }

  public int proofDay(int item, int index) throws IndexOutOfBoundsException, NoSuchElementException {
    Proofs proofs = postedItem(item).proofs;
    if (!proofs.has(index)) {
      throw new NoSuchElementException("no such proof");
    }
    return proofs.dayOf(index);
  }

  public boolean isProved() {
    for (int i = 0; i < items.size(); i++) {
      Item item = items.get(i);
      boolean asked = item.registered && item.trip.state != LOST;
      if (asked && item.proofs.placeOf(item.proofs.count - 1) != item.placeNumber()) {
        return false;
      }
    }
    return true;
  }

  // ---- days and figures

  public int goOn(int days) throws IllegalArgumentException {
    if (outside(days, 1, MAX_STEP)) {
      throw new IllegalArgumentException("days out of range");
    }
    int before = handedToAddressees + handedToSenders;
    for (int i = 0; i < days; i++) {
      passDay();
    }
    return handedToAddressees + handedToSenders - before;
  }

  public int day() {
    return today;
  }

  public long balance(int post) throws IllegalArgumentException {
    if (outside(post, 0, POSTS - 1)) {
      throw new IllegalArgumentException("no such post");
    }
    return balances.read(post);
  }

  public int at(int office) throws IndexOutOfBoundsException {
    Office asked = madeOffice(office);
    int count = 0;
    for (int i = 0; i < items.size(); i++) {
      Trip trip = items.get(i).trip;
      boolean inside = trip.isAtHand() || trip.state == AT_CUSTOMS;
      if (inside && trip.office == asked) {
        count++;
      }
    }
    return count;
  }

  public float handedShare() throws ArithmeticException {
    int all = items.size();
    if (all == 0) {
      throw new ArithmeticException("no items");
    }
    return (float) handedToAddressees / (float) all;
  }

  public double meanDays() throws ArithmeticException {
    if (handedToAddressees == 0) {
      throw new ArithmeticException("no items");
    }
    return (double) daysToAddressees / (double) handedToAddressees;
  }

  // ---- what a number in a call means

  private static boolean outside(int number, int low, int high) {
    return number < low || number > high;
  }

  private Office officeOrNull(int number) {
    return outside(number, 0, offices.size() - 1) ? null : offices.get(number);
  }

  private Office madeOffice(int number) throws IndexOutOfBoundsException {
    Office office = officeOrNull(number);
    if (office == null) {
      throw new IndexOutOfBoundsException("no such office");
    }
    return office;
  }

  private Office openOffice(int number) throws IndexOutOfBoundsException {
    Office office = madeOffice(number);
    if (!office.open) {
      throw new IndexOutOfBoundsException("it is closed");
    }
    return office;
  }

  private Road roadOrNull(int number) {
    return outside(number, 0, roads.size() - 1) ? null : roads.get(number);
  }

  private Road builtRoad(int number) throws IndexOutOfBoundsException {
    Road road = roadOrNull(number);
    if (road == null) {
      throw new IndexOutOfBoundsException("no such road");
    }
    return road;
  }

  private Person addedPerson(int number) throws IndexOutOfBoundsException {
    if (outside(number, 0, persons.size() - 1)) {
      throw new IndexOutOfBoundsException("no such person");
    }
    return persons.get(number);
  }

  private Item postedItem(int number) throws IndexOutOfBoundsException {
    if (outside(number, 0, items.size() - 1)) {
      throw new IndexOutOfBoundsException("no such item");
    }
    return items.get(number);
  }

  // ---- roads and ways

  private boolean isJoined(Office from, Office to) {
    for (int i = 0; i < roads.size(); i++) {
      Road road = roads.get(i);
      if (road.from == from && road.to == to) {
        return true;
      }
    }
    return false;
  }

  private Road nextRoad(Trip trip) {
    if (trip.misthrown != null) {
      return trip.misthrown;
    }
    return roadOrNull(ways.firstBetween(trip.office, trip.goal));
  }

  private static int postage(int length, int weight, int kind, int worth) {
    int zone = length >= NO_WAY ? ZONE_WITHOUT_WAY : (length + 1) / 2;
    int sum = (2 + weight) * (1 + zone);
    if ((kind & NOT_URGENT) == 0) {
      sum *= 2;
    }
    if ((kind & REGISTERED) != 0) {
      sum += 5;
    }
    return sum + (worth + 9) / 10;
  }

  // ---- a day: no item's step depends on another's, but for the room of a road, so items go by numbers

  private void passDay() {
    today++;
    for (int i = 0; i < items.size(); i++) {
      leaveCustoms(items.get(i));
    }
    for (int i = 0; i < items.size(); i++) {
      arrive(items.get(i));
    }
    for (int i = 0; i < items.size(); i++) {
      handle(items.get(i));
    }
    for (int i = 0; i < roads.size(); i++) {
      roads.get(i).taken = 0;
    }
    depart(true);
    depart(false);
  }

  private void leaveCustoms(Item item) {
    Trip trip = item.trip;
    if (trip.state == AT_CUSTOMS && trip.readyDay == today) {
      item.prove(PROOF_CLEARED, today);
      sendBack(item);
    }
  }

  private void arrive(Item item) {
    Trip trip = item.trip;
    Road road = trip.road;
    if (road == null || trip.state != ON_ROAD || trip.readyDay != today) {
      return;
    }
    putAt(item, road.to);
    trip.comings.raise(road.to.number, 1);
    if (trip.comings.read(road.to.number) == COMINGS_TO_TURN) {
      sendBack(item);
    } else if (item.forbidden && !trip.back && road.from.owner != road.to.owner) {
      trip.state = AT_CUSTOMS;
      trip.readyDay = today + CUSTOMS_DAYS;
      item.prove(PROOF_CUSTOMS, today);
    }
  }

  private void handle(Item item) {
    Trip trip = item.trip;
    if (!trip.isAtHand() || trip.office != trip.goal || trip.turnedDay == today) {
      return;
    }
    Person taker = item.taker();
    if (taker.lives != trip.office) {
      Office next = officeOrNull(trip.office.known.read(taker.number));
      if (next == null || trip.sentOn >= MAX_SENT_ON) {
        sendBack(item);
      } else {
        sendOn(item, next);
      }
    } else if (taker.takesFrom <= today && (trip.back || item.owed == 0)) {
      handOver(item);
    } else if (trip.waited + 1 >= WAITS_TO_TURN) {
      sendBack(item);
    } else {
      trip.waited++;
      trip.state = WAITING;
    }
  }

  private void sendOn(Item item, Office next) {
    item.trip.sentOn++;
    item.trip.turnTo(next, today);
    item.prove(PROOF_ON, today);
  }

  private void sendBack(Item item) {
    Trip trip = item.trip;
    if (trip.back) {
      trip.state = DEAD;
      item.prove(PROOF_DEAD, today);
      return;
    }
    trip.back = true;
    trip.turnTo(trip.source, today);
    item.prove(PROOF_BACK, today);
  }

  private void handOver(Item item) {
    Trip trip = item.trip;
    if (trip.back) {
      trip.state = TO_SENDER;
      handedToSenders++;
    } else {
      trip.state = TO_ADDRESSEE;
      handedToAddressees++;
      daysToAddressees += today - item.postedDay;
      shareOut(item);
    }
    item.prove(trip.state, today);
  }

  private void shareOut(Item item) {
    int all = 0;
    for (int post = 0; post < POSTS; post++) {
      all += item.trip.roadDays.read(post);
    }
    if (all == 0) {
      return;
    }
    for (int post = 0; post < POSTS; post++) {
      int part = item.paid * item.trip.roadDays.read(post) / all;
      balances.raise(item.firstPost, -part);
      balances.raise(post, part);
    }
  }

  private void depart(boolean urgent) {
    for (int i = 0; i < items.size(); i++) {
      Item item = items.get(i);
      Trip trip = item.trip;
      if (item.urgent != urgent || trip.state != AT_OFFICE) {
        continue;
      }
      Road road = nextRoad(trip);
      if (road == null || !road.startsOn(today)) {
        continue;
      }
      if (road.taken < road.room) {
        leave(item, road);
      } else {
        trip.leftBehind++;
      }
    }
  }

  private void leave(Item item, Road road) {
    Trip trip = item.trip;
    road.taken++;
    trip.state = ON_ROAD;
    trip.road = road;
    trip.misthrown = null;
    trip.readyDay = today + road.length;
    trip.roadDays.raise(road.from.owner, road.length);
    item.prove(PROOF_LEAVES, today);
  }

  private void putAt(Item item, Office office) {
    Trip trip = item.trip;
    trip.state = AT_OFFICE;
    trip.office = office;
    trip.road = null;
    trip.waited = 0;
    item.prove(PROOF_COMES, today);
  }

  private boolean isClaimable(Item item) {
    return item.worth > 0 && item.registered && !item.claimed && item.trip.state == LOST
        && today - item.postedDay >= CLAIM_DAYS;
  }

  // ---- closing

  private Office nearestTo(Office old) {
    Office nearest = null;
    int least = NO_WAY;
    for (int i = 0; i < offices.size(); i++) {
      Office other = offices.get(i);
      int length = ways.lengthBetween(old, other);
      if (other != old && length < least) {
        nearest = other;
        least = length;
      }
    }
    return nearest;
  }

  private boolean isAwaited(Office office) {
    for (int i = 0; i < items.size(); i++) {
      Trip trip = items.get(i).trip;
      boolean pending = trip.state == ON_ROAD || trip.state == AT_CUSTOMS;
      if (pending && trip.nextOffice() == office) {
        return true;
      }
    }
    return false;
  }

  private void movePersons(Office old, Office heir) {
    for (int i = 0; i < persons.size(); i++) {
      Person person = persons.get(i);
      if (person.lives == old) {
        person.lives = heir;
        old.known.write(i, heir.number);
      }
    }
  }

  private void handKnowledge(Office old, Office heir) {
    for (int i = 0; i < persons.size(); i++) {
      int known = heir.known.read(i);
      // Knowing that a person moved to the closed office is no better than what that one knew.
      if (known == NONE || known == old.number) {
        int told = old.known.read(i);
        heir.known.write(i, told == heir.number ? NONE : told);
      }
      for (int j = 0; j < offices.size(); j++) {
        Row others = offices.get(j).known;
        if (others.read(i) == old.number) {
          others.write(i, heir.number);
        }
      }
    }
  }

  private void redirect(Item item, Office old, Office heir) {
    Trip trip = item.trip;
    Road told = trip.misthrown;
    if (told != null && (told.from == old || told.to == old)) {
      trip.misthrown = null;
    }
    if (trip.goal == old) {
      trip.goal = heir;
    }
    if (trip.source == old) {
      trip.source = heir;
    }
    if (trip.isAtHand() && trip.office == old) {
      putAt(item, heir);
    }
  }

  /** A row of numbers that tests each index, so that none outside it reaches the array. */
  private static final class Row {
    private final int[] cells;
    private final int blank;

    Row(int length, int blank) {
      this.cells = new int[Math.max(length, 0)];
      this.blank = blank;
      clear();
    }

    private boolean has(int index) {
      return index >= 0 && index < cells.length;
    }

    int read(int index) {
      return has(index) ? cells[index] : blank;
    }

    void write(int index, int value) {
      if (has(index)) {
        cells[index] = value;
      }
    }

    void raise(int index, int by) {
      if (has(index)) {
        cells[index] += by;
      }
    }

    void clear() {
      Arrays.fill(cells, blank);
    }
  }

  private static final class Office {
    final int number;
    final int owner;
    boolean open = true;
    /** By persons: the office to which each moved from here last. */
    final Row known = new Row(MAX_PERSONS, NONE);

    Office(int number, int owner) {
      this.number = number;
      this.owner = owner;
    }
  }

  private static final class Road {
    final int number;
    final Office from;
    final Office to;
    final int length;
    final int week;
    final int room;
    int freeFrom;
    int taken;

    Road(int number, Office from, Office to, int length, int week, int room) {
      this.number = number;
      this.from = from;
      this.to = to;
      this.length = length;
      this.week = week;
      this.room = room;
    }

    boolean startsOn(int day) {
      return day >= freeFrom && (week >> (day % WEEK_DAYS) & 1) == 1;
    }
  }

  private static final class Person {
    final int number;
    Office lives;
    int takesFrom;

    Person(int number, Office lives) {
      this.number = number;
      this.lives = lives;
    }
  }

  /** The ways between open offices, measured anew when an office or a road is. */
  private static final class Ways {
    private final Row lengths = new Row(MAX_OFFICES * MAX_OFFICES, NO_WAY);
    private final Row nexts = new Row(MAX_OFFICES * MAX_OFFICES, NONE);
    private final Row firsts = new Row(MAX_OFFICES * MAX_OFFICES, NONE);

    int lengthBetween(Office from, Office to) {
      return lengths.read(cell(from.number, to.number));
    }

    int firstBetween(Office from, Office to) {
      return firsts.read(cell(from.number, to.number));
    }

    private static int cell(int from, int to) {
      return from * MAX_OFFICES + to;
    }

    void measure(ArrayList<Office> offices, ArrayList<Road> roads) {
      lengths.clear();
      nexts.clear();
      firsts.clear();
      for (int i = 0; i < offices.size(); i++) {
        if (offices.get(i).open) {
          lengths.write(cell(i, i), 0);
        }
      }
      for (int i = 0; i < roads.size(); i++) {
        Road road = roads.get(i);
        if (road.from.open && road.to.open) {
          lengths.write(cell(road.from.number, road.to.number), road.length);
        }
      }
      for (int over = 0; over < offices.size(); over++) {
        shorten(over, offices.size());
      }
      for (int i = 0; i < roads.size(); i++) {
        Road road = roads.get(i);
        if (road.from.open && road.to.open) {
          leadBy(road, offices.size());
        }
      }
    }

    private void shorten(int over, int count) {
      for (int from = 0; from < count; from++) {
        for (int to = 0; to < count; to++) {
          int sum = lengths.read(cell(from, over)) + lengths.read(cell(over, to));
          if (sum < lengths.read(cell(from, to))) {
            lengths.write(cell(from, to), sum);
          }
        }
      }
    }

    /** Among the shortest ways the lowest office behind the start decides, and again from there. */
    private void leadBy(Road road, int count) {
      int next = road.to.number;
      for (int to = 0; to < count; to++) {
        int way = cell(road.from.number, to);
        int sum = road.length + lengths.read(cell(next, to));
        int held = nexts.read(way);
        if (sum < NO_WAY && sum == lengths.read(way) && (held == NONE || next < held)) {
          nexts.write(way, next);
          firsts.write(way, road.number);
        }
      }
    }
  }

  private static final class Item {
    final Person sender;
    final Person addressee;
    final Trip trip;
    final boolean urgent;
    final boolean registered;
    final boolean forbidden;
    final int worth;
    final int postedDay;
    final int firstPost;
    final Proofs proofs = new Proofs();
    int paid;
    int owed;
    boolean claimed;

    Item(Person sender, Person addressee, Trip trip, int kind, int worth, int postedDay) {
      this.sender = sender;
      this.addressee = addressee;
      this.trip = trip;
      this.urgent = (kind & NOT_URGENT) == 0;
      this.registered = (kind & REGISTERED) != 0;
      this.forbidden = (kind & FORBIDDEN) != 0;
      this.worth = worth;
      this.postedDay = postedDay;
      this.firstPost = trip.office.owner;
    }

    Person taker() {
      return trip.back ? sender : addressee;
    }

    int placeNumber() {
      if (trip.state == TO_ADDRESSEE) {
        return PERSON_PLACE + addressee.number;
      }
      if (trip.state == TO_SENDER) {
        return PERSON_PLACE + sender.number;
      }
      return trip.road == null ? trip.office.number : ROAD_PLACE + trip.road.number;
    }

    void prove(char kind, int day) {
      boolean always = kind == PROOF_POSTED || kind == TO_ADDRESSEE || kind == TO_SENDER;
      if (registered || always) {
        proofs.append(kind, placeNumber(), day);
      }
    }
  }

  /** Where an item is, where it goes to, and what has happened to it on its way. */
  private static final class Trip {
    char state = AT_OFFICE;
    /** The office at which it is, or from which its road leads. */
    Office office;
    /** The road on which it is, or was lost, or null. */
    Road road;
    Office goal;
    /** The office to which it goes when it is sent back. */
    Office source;
    boolean back;
    Road misthrown;
    int readyDay;
    int turnedDay = NONE;
    int waited;
    int sentOn;
    int leftBehind;
    final Row comings = new Row(MAX_OFFICES, 0);
    final Row roadDays = new Row(POSTS, 0);

    Trip(Office source, Office goal) {
      this.office = source;
      this.source = source;
      this.goal = goal;
      comings.write(source.number, 1);
    }

    boolean isAtHand() {
      return state == AT_OFFICE || state == WAITING;
    }

    boolean isEnded() {
      return state == TO_ADDRESSEE || state == TO_SENDER || state == DEAD;
    }

    Office nextOffice() {
      return road == null ? office : road.to;
    }

    void turnTo(Office next, int day) {
      state = AT_OFFICE;
      goal = next;
      waited = 0;
      turnedDay = day;
    }
  }

  /** The proofs of one item, in the order in which they were given. */
  private static final class Proofs {
    private static final int FIRST_ROOM = 8;

    private int[] kinds = new int[FIRST_ROOM];
    private int[] places = new int[FIRST_ROOM];
    private int[] dates = new int[FIRST_ROOM];
    int count;

    boolean has(int index) {
      return index >= 0 && index < count && index < kinds.length && index < places.length && index < dates.length;
    }

    char kindOf(int index) {
      return has(index) ? (char) kinds[index] : ' ';
    }

    int placeOf(int index) {
      return has(index) ? places[index] : NONE;
    }

    int dayOf(int index) {
      return has(index) ? dates[index] : NONE;
    }

    void append(char kind, int place, int date) {
      if (count >= MAX_PROOFS) {
        return;
      }
      if (count >= kinds.length) {
        kinds = Arrays.copyOf(kinds, 2 * count);
        places = Arrays.copyOf(places, 2 * count);
        dates = Arrays.copyOf(dates, 2 * count);
      }
      count++;
      int last = count - 1;
      if (has(last)) {
        kinds[last] = kind;
        places[last] = place;
        dates[last] = date;
      }
    }
  }
}
