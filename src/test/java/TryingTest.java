/** Promises 19 to 24: what would happen, and the two quotients. */
public final class TryingTest {
  private TryingTest() {
  }

  public static void main(String[] args) {
    ordinaryOrder();
    tryingChangesNothing();
    withThePlan();
    fortyOrders();
    beyondTheLastTurn();
    delays();
    longWays();
    failures();
    quotients();
    wrongInputs();
    Check.end();
  }

  private static void ordinaryOrder() {
    MessengerBoard b = Check.boardOf("board 5 3;unit 4 0 1;");
    int[] states = {0, 0, 1, 1, 1, 1, 1, 2, 2};
    for (int turns = 0; turns < states.length; turns++) {
      int asked = turns;
      Check.due("wouldBe behind " + turns, () -> b.wouldBe(0, 0, 2, asked), states[turns]);
    }
    Check.due("wouldBe behind 60", () -> b.wouldBe(0, 0, 2, 60), 2);
    Check.due("wouldArrive", () -> b.wouldArrive(0, 0, 2), 1);
    Check.due("bestDelay", () -> b.bestDelay(0, 0, 2), 0);
    b.send(0, 0, 2);
    Check.due("behind an older order", () -> b.wouldBe(0, 4, 0, 2), 2);
    b.pass(3);
    // From 2 0 and 3 1 it turns to where the unit is on its own way: 3 2, then 2 2.
    Check.due("the messenger follows the unit", () -> b.wouldArrive(0, 0, 0), 5);
    MessengerBoard walled = Check.boardOf("board 5 3;unit 4 0 1;wall 2 0;wall 2 1;wall 2 2;");
    Check.due("no way: wouldArrive", () -> walled.wouldArrive(0, 4, 0), -1);
    Check.due("no way: bestDelay", () -> walled.bestDelay(0, 4, 0), -1);
    Check.due("no way: wouldBe on its way", () -> walled.wouldBe(0, 4, 0, 30), 0);
    Check.due("no way: wouldBe lost", () -> walled.wouldBe(0, 4, 0, 31), 4);
    walled.pass(1);
    walled.send(0, 3, 0);
    Check.due("no way: failing(30)", () -> walled.failing(30), 0);
    Check.due("no way: failing(31)", () -> walled.failing(31), 1);
  }

  private static void tryingChangesNothing() {
    MessengerBoard b = Check.boardOf("board 9 3;unit 8 0 1;picket 4 0 1 2 0 0;plan 0 0 0 1;");
    b.send(0, 0, 2);
    b.wouldBe(0, 0, 2, 60);
    b.wouldArrive(0, 0, 2);
    b.bestDelay(0, 0, 2);
    b.failing(60);
    Check.due("the turn", () -> b.size(5), 0);
    Check.due("the orders", () -> b.size(4), 1);
    Check.due("the events", () -> b.size(7), 0);
    Check.due("the picket", () -> b.picket(0, 7), 0);
    Check.due("the unit", () -> b.unit(0, 0), 8);
    Check.due("the messenger", () -> b.order(0, 7), 0);
    Check.due("the operations", b::undoCount, 1);
    Check.due("the past", () -> b.wasAt(0, 0), 8);
  }

  private static void withThePlan() {
    MessengerBoard b = Check.boardOf("board 9 3;unit 1 0 1;plan 0 1 2 1;");
    Check.due("obeyed ahead of the plan", () -> b.wouldBe(0, 8, 0, 1), 1);
    Check.due("replaced by the plan", () -> b.wouldBe(0, 8, 0, 2), 6);
    MessengerBoard few = Check.boardOf("board 9 3;unit 8 0 1;plan 0 1 2 0;plan 0 1 2 0;plan 0 1 2 3;");
    for (int i = 0; i < 37; i++) {
      few.send(0, 8, 0);
    }
    Check.due("room for one now", () -> few.wouldArrive(0, 8, 0), 3);
    few.send(0, 8, 0);
    Check.due("replaced by the only one of the plan that finds room", () -> few.wouldBe(0, 8, 0, 4), 6);
    few.send(0, 8, 0);
    Check.due("the last one", () -> few.bestDelay(0, 8, 0), 0);
    few.send(0, 8, 0);
    Check.due("none left", () -> few.bestDelay(0, 8, 0), -1);
  }

  private static void fortyOrders() {
    MessengerBoard b = Check.boardOf("board 3 3;unit 2 2 1;");
    for (int i = 0; i < 40; i++) {
      b.send(0, 2, 2);
    }
    Check.due("wouldBe with 40 orders", () -> b.wouldBe(0, 2, 2, 0), -1);
    Check.due("wouldArrive with 40 orders", () -> b.wouldArrive(0, 2, 2), -1);
    Check.due("bestDelay with 40 orders", () -> b.bestDelay(0, 2, 2), -1);
    Check.due("failing with 40 orders", () -> b.failing(5), 0);
    Check.illegal("the exceptions come first", () -> b.wouldBe(0, 2, 2, 61));
    // The picket watches now; the plan takes the last place before it does not any more.
    MessengerBoard last = Check.boardOf("board 3 3;unit 2 2 1;plan 0 2 2 1;picket 1 1 1 20 0 2;");
    for (int i = 0; i < 39; i++) {
      last.send(0, 2, 2);
    }
    Check.due("taken by the plan in the meantime", () -> last.bestDelay(0, 2, 2), -1);
    Check.due("and without the plan", () -> {
      last.movePlan(0, 400);
      return last.bestDelay(0, 2, 2);
    }, 3);
  }

  private static void beyondTheLastTurn() {
    MessengerBoard b = Check.boardOf("board 5 3;unit 4 0 1;");
    for (int i = 0; i < 8; i++) {
      b.pass(60);
    }
    b.pass(20);
    Check.due("turn 500", () -> b.size(5), 500);
    Check.due("wouldBe beyond", () -> b.wouldBe(0, 0, 2, 60), 2);
    Check.due("wouldArrive beyond", () -> b.wouldArrive(0, 0, 2), 501);
    Check.due("bestDelay beyond", () -> b.bestDelay(0, 0, 2), 0);
    b.send(0, 0, 2);
    b.setPatience(1);
    Check.due("failing beyond", () -> b.failing(60), 0);
  }

  private static void delays() {
    MessengerBoard b = Check.boardOf("board 5 3;unit 4 0 1;picket 2 0 3 20 0 14;");
    Check.due("the least delay", () -> b.bestDelay(0, 4, 0), 15);
    Check.due("intercepted at once", () -> b.wouldArrive(0, 4, 0), -1);
    Check.due("as its state", () -> b.wouldBe(0, 4, 0, 1), 5);
    b.movePicket(0, 0, 0);
    b.pass(1);
    Check.due("the delay is counted from now", () -> b.bestDelay(0, 4, 0), 14);
    MessengerBoard longer = Check.boardOf("board 5 3;unit 4 0 1;picket 2 0 3 20 0 15;");
    Check.due("no delay up to 15", () -> longer.bestDelay(0, 4, 0), -1);
    MessengerBoard patience = Check.boardOf("board 9 3;unit 8 0 1;patience 2;plan 0 0 0 0;");
    Check.due("lost: wouldArrive", () -> patience.wouldArrive(0, 0, 0), -1);
    Check.due("lost: bestDelay", () -> patience.bestDelay(0, 0, 0), -1);
    Check.due("lost: wouldBe", () -> patience.wouldBe(0, 0, 0, 3), 4);
  }

  /** A way of 62 steps is just what the greatest patience allows. */
  private static void longWays() {
    StringBuilder text = new StringBuilder("board 12 12;unit 8 10 1;unit 8 11 1;");
    for (int x = 1; x <= 7; x += 2) {
      for (int y = 0; y < 11; y++) {
        text.append("wall ").append(x).append(" ").append(x % 4 == 1 ? y : y + 1).append(";");
      }
    }
    MessengerBoard b = Check.boardOf(text.toString());
    Check.due("a long way", () -> b.distance(0, 0, 8, 11), 63);
    Check.due("just in time", () -> b.wouldArrive(0, 0, 0), 30);
    Check.due("just lost", () -> b.wouldArrive(1, 0, 0), -1);
    Check.due("just in time without a delay", () -> b.bestDelay(0, 0, 0), 0);
    b.send(0, 8, 10);
    b.send(1, 8, 11);
    Check.due("one of them fails", () -> b.failing(31), 1);
    Check.due("done and lost at once", () -> b.pass(31), 3);
    Check.due("as told", () -> b.order(0, 5), 30);
  }

  private static void failures() {
    MessengerBoard b = Check.boardOf("board 12 3;unit 11 0 1;unit 0 2 1;picket 6 0 0 20 2 2;patience 2;plan 0 1 1 1;");
    b.send(0, 11, 0);
    b.send(1, 0, 2);
    b.send(0, 11, 0);
    Check.due("failing(0)", () -> b.failing(0), 0);
    Check.due("failing(2)", () -> b.failing(2), 0);
    Check.due("intercepted on turn 2", () -> b.failing(3), 2);
    b.movePicket(0, 6, 2);
    Check.due("lost on turn 2", () -> b.failing(3), 2);
    Check.due("the plan's orders do not count", () -> b.failing(60), 2);
    b.pass(3);
    Check.due("what is over does not count", () -> b.failing(60), 1);
  }

  private static void quotients() {
    MessengerBoard b = Check.boardOf("board 9 3;unit 2 0 1;unit 8 0 1;");
    Check.due("meanDelay without orders", b::meanDelay, 0.0);
    Check.due("success without orders", b::success, 0.0f);
    b.send(0, 2, 0);
    b.send(1, 0, 0);
    b.send(1, 8, 0);
    Check.due("meanDelay without arrivals", b::meanDelay, 0.0);
    Check.due("success without any done", b::success, 0.0f);
    b.pass(1);
    Check.due("meanDelay of one on its turn", b::meanDelay, 0.0);
    Check.due("success of a third", b::success, 1.0f / 3.0f);
    b.pass(3);
    Check.due("meanDelay of all three", b::meanDelay, 2.0);
    Check.due("success of two thirds", b::success, 2.0f / 3.0f);
    MessengerBoard one = Check.boardOf("board 9 3;unit 8 0 1;");
    one.send(0, 8, 0);
    one.pass(4);
    Check.due("meanDelay of one", one::meanDelay, 3.0);
    Check.due("success of one", one::success, 1.0f);
    b.send(0, 8, 2);
    b.pass(2);
    Check.due("meanDelay of four", b::meanDelay, 6.0 / 4.0);
    Check.due("success of a half", b::success, 0.5f);
  }

  private static void wrongInputs() {
    MessengerBoard b = Check.boardOf("board 4 3;unit 3 0 1;wall 1 1;");
    Check.noSuch("wouldBe of no unit", () -> b.wouldBe(1, 0, 0, 0));
    Check.noSuch("wouldBe of no unit, with a wall", () -> b.wouldBe(-1, 1, 1, 99));
    Check.noSuch("wouldBe of no cell", () -> b.wouldBe(0, 4, 0, 99));
    Check.illegal("wouldBe of a wall", () -> b.wouldBe(0, 1, 1, 0));
    Check.illegal("wouldBe of -1 turns", () -> b.wouldBe(0, 0, 0, -1));
    Check.illegal("wouldBe of 61 turns", () -> b.wouldBe(0, 0, 0, 61));
    Check.noSuch("wouldArrive of no unit", () -> b.wouldArrive(1, 1, 1));
    Check.noSuch("wouldArrive of no cell", () -> b.wouldArrive(0, 0, 3));
    Check.illegal("wouldArrive of a wall", () -> b.wouldArrive(0, 1, 1));
    Check.noSuch("bestDelay of no unit", () -> b.bestDelay(-1, 1, 1));
    Check.noSuch("bestDelay of no cell", () -> b.bestDelay(0, -1, 0));
    Check.illegal("bestDelay of a wall", () -> b.bestDelay(0, 1, 1));
    Check.illegal("failing(-1)", () -> b.failing(-1));
    Check.illegal("failing(61)", () -> b.failing(61));
    Check.due("failing(60)", () -> b.failing(60), 0);
  }
}
