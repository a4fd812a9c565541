/** The example of README.md: what a line prints stands behind it. */
public final class Example {
  private Example() {
  }

  public static void main(String[] args) {
    PostRoads realm = new PostRoads();
    int harbour = realm.office(0);                  // an office of the post 0
    int ford = realm.office(1);
    int hill = realm.office(1);
    int coast = realm.road(harbour, ford, 2, 127, 5);   // 2 days, starts every day, takes 5 items
    realm.road(ford, hill, 1, 127, 5);
    realm.road(hill, harbour, 4, 1, 5);             // starts on the days 0, 7, 14 ..
    int anna = realm.person(harbour);
    int bert = realm.person(ford);

    // An urgent, registered letter of the weight 3, for which 10 less than the price is paid.
    int price = realm.price(harbour, ford, 3, 2, 0);
    int letter = realm.post(anna, bert, ford, 3, 2, 0, price - 10);
    System.out.println(price);                      // 25
    System.out.println(realm.due(letter));          // 10

    // It leaves on the day 1 and comes on the day 3, but waits until what is due is paid.
    realm.goOn(1);
    System.out.println(realm.place(letter) == 100 + coast);   // true
    System.out.println(realm.goOn(2));              // 0
    System.out.println(realm.state(letter));        // w
    System.out.println(realm.pay(letter));          // 10

    // Bert moves before it is handed over: the ford knows where to, and sends it on.
    realm.move(bert, hill);
    System.out.println(realm.goOn(1));              // 0
    System.out.println(realm.goOn(1));              // 1
    System.out.println(realm.state(letter));        // v
    System.out.println(realm.place(letter) == 200 + bert);    // true

    // The proofs tell the letter's way: posted, left, came, sent on, left, came, handed over.
    for (int i = 0; i < realm.proofs(letter); i++) {
      System.out.print(realm.proofAt(letter, i));
      System.out.print(realm.proofDay(letter, i));
      System.out.print(' ');
    }
    System.out.println(realm.isProved());           // a0 d1 r3 f4 d4 r5 v5 true

    // 25 were paid: of 3 days on roads 2 are the post 0's, so 16, 1 is the post 1's, so 8; the 1 left stays at posting.
    System.out.println(realm.balance(0));           // 17
    System.out.println(realm.balance(1));           // 8
    System.out.println(realm.handedShare());        // 1.0
    System.out.println(realm.meanDays());           // 5.0

    // The hill closes: the office to which all move is the nearest one to which a way leads.
    System.out.println(realm.close(hill) == harbour);         // true
    System.out.println(realm.home(bert) == harbour);          // true
  }
}
