/** Runs every test of the project; exit code 1 if an answer was wrong. */
public final class AllTests {
  private AllTests() {
  }

  public static void main(String[] args) {
    FaceTest.run();
    ReadmeTest.run();
    OfficesTest.run();
    PersonsTest.run();
    PostageTest.run();
    DayTest.run();
    ReturnsTest.run();
    CustomsTest.run();
    MisthrowTest.run();
    LossTest.run();
    CloseTest.run();
    FiguresTest.run();
    RoadEdgesTest.run();
    MailEdgesTest.run();
    LimitsTest.run();
    BoundsTest.run();
    RefusedTest.run();
    WrongInputsTest.run();
    RandomRunsTest.run();
    System.out.println(Check.answers() - Check.wrongAnswers() + " passed, " + Check.wrongAnswers() + " failed");
    if (Check.wrongAnswers() > 0) {
      System.exit(1);
    }
  }
}
