import java.util.function.Supplier;

/**
 * All promises: each refused call with the exception that is due, also where more than one could be, in a busy realm,
 * a full one and an empty one; and each leaves a realm that goes on just as its twin, which was not asked.
 */
final class RefusedTest {
  private static final String[] BUSY = {
      "IllegalArgumentException: office -1, office 3",
      "IndexOutOfBoundsException: road -1 0 1 1 1, road 0 -1 1 1 1, road 6 0 1 1 1, road 0 6 1 1 1, road 4 0 1 1 1",
      "IndexOutOfBoundsException: road 0 4 1 1 1, road 4 4 1 1 1, road 6 6 0 0 0, road 3 4 1 1 1, road 4 3 6 128 21",
      "IllegalArgumentException: road 5 5 1 1 1, road 2 0 0 1 1, road 2 0 6 1 1, road 2 0 1 0 1, road 2 0 1 128 1",
      "IllegalArgumentException: road 2 0 1 1 0, road 2 0 1 1 21, road 0 1 6 1 1, road 0 1 1 0 1, road 0 1 1 1 21",
      "IllegalStateException: road 0 1 1 1 1, road 1 0 5 127 20, road 0 5 2 3 4",
      "IndexOutOfBoundsException: bar -1 0, bar 10 0, bar -1 -1, bar 10 31",
      "IllegalArgumentException: bar 0 -1, bar 0 31, bar 2 31, bar 8 -1, bar 9 31",
      "IndexOutOfBoundsException: close -1, close 6, close 4",
      "UnsupportedOperationException: close 5, close 1",
      "IndexOutOfBoundsException: days -1 0, days 0 -1, days 6 0, days 0 6, days 4 0, days 0 4, days 4 4, days 5 4",
      "NoSuchElementException: days 5 0, days 5 3",
      "IndexOutOfBoundsException: firstRoad -1 0, firstRoad 0 -1, firstRoad 6 0, firstRoad 0 6, firstRoad 4 0",
      "IndexOutOfBoundsException: firstRoad 3 4, firstRoad 4 4, firstRoad 6 6, firstRoad 5 4",
      "NoSuchElementException: firstRoad 5 0, firstRoad 0 0, firstRoad 5 5",
      "IndexOutOfBoundsException: person -1, person 6, person 4",
      "IndexOutOfBoundsException: move -1 0, move 5 0, move 0 -1, move 0 6, move 0 4, move 5 4",
      "IllegalArgumentException: move 0 0, move 2 2, move 4 3",
      "IndexOutOfBoundsException: hold -1 1, hold 5 1, hold -1 -1, hold 5 31",
      "IllegalArgumentException: hold 0 -1, hold 0 31, hold 1 31, hold 3 -1, hold 4 31",
      "IndexOutOfBoundsException: home -1, home 5",
      "IndexOutOfBoundsException: price -1 0 1 0 0, price 0 -1 1 0 0, price 6 0 1 0 0, price 0 6 1 0 0",
      "IndexOutOfBoundsException: price 4 0 1 0 0, price 0 4 1 0 0, price 4 0 0 0 0, price 0 6 1 4 0, price 6 6 1 0 -1",
      "IllegalArgumentException: price 0 1 0 0 0, price 0 1 21 0 0, price 0 1 1 -1 0, price 0 1 1 4 0",
      "IllegalArgumentException: price 0 1 1 0 -1, price 0 1 1 0 101",
      "IndexOutOfBoundsException: post -1 1 0 1 0 0 0, post 5 1 0 1 0 0 0, post 1 -1 0 1 0 0 0, post 1 5 0 1 0 0 0",
      "IndexOutOfBoundsException: post 0 1 -1 1 0 0 0, post 0 1 6 1 0 0 0, post 0 1 4 1 0 0 0, post 5 1 0 0 0 0 0",
      "IndexOutOfBoundsException: post 1 5 0 1 8 0 0, post 0 1 4 1 0 101 0, post 0 1 6 1 0 0 1000",
      "IllegalArgumentException: post 0 1 1 0 0 0 0, post 0 1 1 21 0 0 0, post 0 1 1 1 -1 0 0, post 0 1 1 1 8 0 0",
      "IllegalArgumentException: post 0 1 1 1 0 -1 0, post 0 1 1 1 0 101 0, post 0 1 1 1 0 0 -1, post 0 1 1 1 0 0 1000",
      "IndexOutOfBoundsException: pay -1, pay 14",
      "IndexOutOfBoundsException: misthrow -1 0, misthrow 14 0, misthrow 12 -1, misthrow 12 10, misthrow 9 10",
      "IndexOutOfBoundsException: misthrow -1 -1, misthrow 14 6",
      "UnsupportedOperationException: misthrow 12 1, misthrow 9 1, misthrow 8 1, misthrow 11 1, misthrow 11 3",
      "UnsupportedOperationException: misthrow 1 1, misthrow 2 1, misthrow 3 5, misthrow 10 0, misthrow 0 7",
      "UnsupportedOperationException: misthrow 13 6, misthrow 13 9",
      "IndexOutOfBoundsException: lose -1, lose 14",
      "UnsupportedOperationException: lose 0, lose 1, lose 2, lose 3, lose 4, lose 7, lose 10",
      "IndexOutOfBoundsException: find -1, find 14",
      "UnsupportedOperationException: find 0, find 7, find 1, find 2, find 3, find 8, find 9, find 11, find 12",
      "IndexOutOfBoundsException: claim -1, claim 14",
      "UnsupportedOperationException: claim 1, claim 2, claim 3, claim 4, claim 5, claim 6, claim 8, claim 10",
      "UnsupportedOperationException: claim 9, claim 11, claim 12",
      "IndexOutOfBoundsException: state -1, state 14, place -1, place 14, due -1, due 14, leftBack -1, leftBack 14",
      "IndexOutOfBoundsException: proofs -1, proofs 14, proofAt -1 0, proofAt 14 0, proofAt 14 -1, proofAt -1 9",
      "IndexOutOfBoundsException: proofPlace -1 0, proofPlace 14 0, proofPlace 14 -1, proofPlace -1 9",
      "IndexOutOfBoundsException: proofDay -1 0, proofDay 14 0, proofDay 14 -1, proofDay -1 9",
      "NoSuchElementException: proofAt 12 -1, proofAt 12 1, proofAt 1 4, proofAt 5 1",
      "NoSuchElementException: proofPlace 12 -1, proofPlace 12 1, proofPlace 1 4, proofPlace 5 1",
      "NoSuchElementException: proofDay 12 -1, proofDay 12 1, proofDay 1 4, proofDay 5 1",
      "IllegalArgumentException: goOn 0, goOn 21, goOn -1, balance -1, balance 3",
      "IndexOutOfBoundsException: at -1, at 6",
  };
  private static final String[] FULL = {
      "IllegalStateException: office 0, office 2",
      "IllegalArgumentException: office -1, office 3",
      "IllegalStateException: road 0 5 1 1 1, road 0 1 1 1 1",
      "IllegalArgumentException: road 5 5 1 1 1, road 0 5 6 1 1, road 0 5 1 0 1, road 0 1 1 1 21",
      "IndexOutOfBoundsException: road 10 0 1 1 1, road 0 10 1 1 1, road 10 10 6 128 21",
      "IllegalStateException: person 0, person 9",
      "IndexOutOfBoundsException: person -1, person 10",
      "IllegalStateException: post 0 1 0 1 0 0 0, post 15 15 9 20 7 100 999",
      "IllegalArgumentException: post 0 1 0 0 0 0 0, post 0 1 0 1 8 0 0, post 0 1 0 1 0 101 0, post 0 1 0 1 0 0 1000",
      "IndexOutOfBoundsException: post 16 1 0 1 0 0 0, post 0 16 0 1 0 0 0, post 0 1 10 1 0 0 0, post 16 1 0 0 8 0 0",
      "IndexOutOfBoundsException: bar 30 1, home 16, move 16 0, hold 16 1, close 10, at 10, days 9 10, firstRoad 10 9",
      "IndexOutOfBoundsException: pay 60, state 60, place 60, due 60, leftBack 60, proofs 60, proofAt 60 0, lose 60",
      "IndexOutOfBoundsException: find 60, claim 60, misthrow 60 0, misthrow 59 30, proofPlace 60 0, proofDay 60 0",
      "ArithmeticException: meanDays",
  };
  private static final String[] EMPTY = {
      "IndexOutOfBoundsException: road 0 1 1 1 1, road 0 0 0 0 0, bar 0 0, bar 0 31, close 0, days 0 0, firstRoad 0 0",
      "IndexOutOfBoundsException: person 0, move 0 0, hold 0 0, hold 0 31, home 0, price 0 0 1 0 0, price 0 0 0 4 101",
      "IndexOutOfBoundsException: post 0 0 0 1 0 0 0, post 0 0 0 0 8 101 1000, pay 0, misthrow 0 0, lose 0, find 0",
      "IndexOutOfBoundsException: claim 0, state 0, place 0, due 0, leftBack 0, proofs 0, proofAt 0 0, proofAt 0 -1",
      "IndexOutOfBoundsException: proofPlace 0 0, proofPlace 0 -1, proofDay 0 0, proofDay 0 -1, at 0, at -1",
      "IllegalArgumentException: office -1, office 3, goOn 0, goOn 21, balance -1, balance 3",
      "ArithmeticException: handedShare, meanDays",
  };
  private static final int FUTURES = 3;

  private RefusedTest() {
  }

  static void run() {
    refused("busy", Realms::busy, BUSY);
    refused("full", Realms::full, FULL);
    refused("empty", PostRoads::new, EMPTY);
  }

  private static void refused(String name, Supplier<PostRoads> maker, String[] rows) {
    String[] due = new String[FUTURES];
    for (int future = 0; future < FUTURES; future++) {
      due[future] = lead(maker.get(), future);
    }
    for (String row : rows) {
      String exception = row.substring(0, row.indexOf(':'));
      for (String call : row.substring(row.indexOf(' ') + 1).split(", ")) {
        for (int future = 0; future < FUTURES; future++) {
          PostRoads x = maker.get();
          Check.same(name + ": " + call, Calls.outcome(x, call), exception);
          Check.same(name + ": behind " + call, lead(x, future), due[future]);
        }
      }
    }
  }

  /** All answers of a realm that is led on in one of three ways; together they show what no query tells. */
  private static String lead(PostRoads x, int future) {
    StringBuilder text = new StringBuilder();
    if (future == 0) {
      for (int i = 0; i < 9; i++) {
        text.append(x.goOn(1)).append(Snapshot.of(x));
      }
    } else if (future == 1) {
      tell(x, text, "bar # 0", 31);
      tell(x, text, "hold # 0", 17);
      for (int road = 0; road < 30; road += 6) {
        tell(x, text, "misthrow # " + road, 61);
      }
      tell(x, text, "claim #", 61);
      tell(x, text, "find #", 61);
      text.append(x.goOn(5)).append(Snapshot.of(x));
    } else {
      text.append(Calls.outcome(x, "office 1")).append(Calls.outcome(x, "road 2 0 1 127 1"));
      text.append(Calls.outcome(x, "person 2")).append(Calls.outcome(x, "post 0 1 2 3 3 4 5"));
      text.append(x.goOn(4));
      tell(x, text, "close #", 11);
      text.append(x.goOn(4)).append(Snapshot.of(x));
    }
    return text.toString();
  }

  private static void tell(PostRoads x, StringBuilder text, String call, int count) {
    for (int i = 0; i < count; i++) {
      text.append(Calls.outcome(x, call.replace("#", "" + i))).append(' ');
    }
  }
}
