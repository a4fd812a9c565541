/**
 * All promises: of each number in a call the least and the greatest that is taken, and the next one on either side, in
 * the busy realm.
 */
final class BoundsTest {
  /** A call with # for the number, the least, the greatest, and the exception that is due for any other. */
  private static final String[] ROWS = {
      "office #; 0; 2; IllegalArgumentException",
      "road # 2 1 1 1; 0; 5; IndexOutOfBoundsException",
      "road 2 # 1 1 1; 0; 5; IndexOutOfBoundsException",
      "road 2 0 # 1 1; 1; 5; IllegalArgumentException",
      "road 2 0 1 # 1; 1; 127; IllegalArgumentException",
      "road 2 0 1 1 #; 1; 20; IllegalArgumentException",
      "bar # 1; 0; 9; IndexOutOfBoundsException",
      "bar 0 #; 0; 30; IllegalArgumentException",
      "close #; 0; 5; IndexOutOfBoundsException",
      "days # 0; 0; 5; IndexOutOfBoundsException",
      "days 0 #; 0; 5; IndexOutOfBoundsException",
      "firstRoad # 0; 0; 5; IndexOutOfBoundsException",
      "firstRoad 0 #; 0; 5; IndexOutOfBoundsException",
      "person #; 0; 5; IndexOutOfBoundsException",
      "move # 5; 0; 4; IndexOutOfBoundsException",
      "move 1 #; 0; 5; IndexOutOfBoundsException",
      "hold # 1; 0; 4; IndexOutOfBoundsException",
      "hold 0 #; 0; 30; IllegalArgumentException",
      "home #; 0; 4; IndexOutOfBoundsException",
      "price # 0 1 0 0; 0; 5; IndexOutOfBoundsException",
      "price 0 # 1 0 0; 0; 5; IndexOutOfBoundsException",
      "price 0 1 # 0 0; 1; 20; IllegalArgumentException",
      "price 0 1 1 # 0; 0; 3; IllegalArgumentException",
      "price 0 1 1 0 #; 0; 100; IllegalArgumentException",
      "post # 1 1 1 0 0 0; 0; 4; IndexOutOfBoundsException",
      "post 0 # 1 1 0 0 0; 0; 4; IndexOutOfBoundsException",
      "post 0 1 # 1 0 0 0; 0; 5; IndexOutOfBoundsException",
      "post 0 1 1 # 0 0 0; 1; 20; IllegalArgumentException",
      "post 0 1 1 1 # 0 0; 0; 7; IllegalArgumentException",
      "post 0 1 1 1 0 # 0; 0; 100; IllegalArgumentException",
      "post 0 1 1 1 0 0 #; 0; 999; IllegalArgumentException",
      "pay #; 0; 13; IndexOutOfBoundsException",
      "misthrow # 0; 0; 13; IndexOutOfBoundsException",
      "misthrow 12 #; 0; 9; IndexOutOfBoundsException",
      "lose #; 0; 13; IndexOutOfBoundsException",
      "find #; 0; 13; IndexOutOfBoundsException",
      "claim #; 0; 13; IndexOutOfBoundsException",
      "state #; 0; 13; IndexOutOfBoundsException",
      "place #; 0; 13; IndexOutOfBoundsException",
      "due #; 0; 13; IndexOutOfBoundsException",
      "leftBack #; 0; 13; IndexOutOfBoundsException",
      "proofs #; 0; 13; IndexOutOfBoundsException",
      "proofAt # 0; 0; 13; IndexOutOfBoundsException",
      "proofAt 1 #; 0; 3; NoSuchElementException",
      "proofPlace # 0; 0; 13; IndexOutOfBoundsException",
      "proofPlace 1 #; 0; 3; NoSuchElementException",
      "proofDay # 0; 0; 13; IndexOutOfBoundsException",
      "proofDay 1 #; 0; 3; NoSuchElementException",
      "goOn #; 1; 20; IllegalArgumentException",
      "balance #; 0; 2; IllegalArgumentException",
      "at #; 0; 5; IndexOutOfBoundsException",
  };

  private BoundsTest() {
  }

  static void run() {
    for (String row : ROWS) {
      String[] parts = row.split("; ");
      int least = Integer.parseInt(parts[1]);
      int greatest = Integer.parseInt(parts[2]);
      taken(parts[0], least, parts[3]);
      taken(parts[0], greatest, parts[3]);
      for (int wrong : new int[] {least - 1, greatest + 1, Integer.MIN_VALUE, Integer.MAX_VALUE}) {
        refused(parts[0], wrong, parts[3]);
      }
    }
  }

  /** Another exception may be due, as for an item that cannot be lost, but not that of the number. */
  private static void taken(String call, int number, String exception) {
    Object outcome = Calls.outcome(Realms.busy(), call.replace("#", "" + number));
    Check.same(call + " takes " + number, exception.equals(outcome), false);
  }

  private static void refused(String call, int number, String exception) {
    PostRoads x = Realms.busy();
    String before = Snapshot.of(x);
    Check.same(call + " by " + number, Calls.outcome(x, call.replace("#", "" + number)), exception);
    Check.same(call + " by " + number + " leaves", Snapshot.of(x), before);
  }
}
