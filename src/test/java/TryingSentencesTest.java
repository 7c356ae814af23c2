/** A test of its own for each sentence of promises 19 to 24 that names a boundary. */
public final class TryingSentencesTest {
  private static final int[] ODD = {-1, -12, 1000, Integer.MIN_VALUE, Integer.MAX_VALUE, 715827883, 1 << 30};

  private TryingSentencesTest() {
  }

  public static void main(String[] args) {
    wouldBe();
    wouldArrive();
    bestDelay();
    failing();
    quotients();
    Check.end();
  }

  private static void wouldBe() {
    Check.sentence("wouldBe: turns: 0 to 60", TryingSentencesTest::triedTurns);
    Check.sentence("Returns the state that an order to a unit, sent now, would have behind so many turns, if they passed",
        TryingSentencesTest::triedStates);
    Check.sentence("(with the plan", TryingSentencesTest::triedWithPlan);
    Check.sentence("and nothing else was done", TryingSentencesTest::nothingElse);
    Check.sentence("also beyond turn 500)", TryingSentencesTest::beyondTheLastTurn);
    Check.sentence("wouldBe: NONE with 40 orders", TryingSentencesTest::wouldBeWithForty);
    Check.sentence("wouldBe: if there is no such unit or cell (checked first)", TryingSentencesTest::wouldBeUnitAndCell);
    Check.sentence("wouldBe: if the cell is a wall, or turns is out of range", TryingSentencesTest::wouldBeWallOrTurns);
  }

  private static void wouldArrive() {
    Check.sentence("Returns the turn on which such an order would arrive, if turns passed (as in wouldBe)",
        TryingSentencesTest::arrivalTurns);
    Check.sentence("wouldArrive: NONE if it would not", TryingSentencesTest::noArrival);
    Check.sentence("wouldArrive: or with 40 orders", TryingSentencesTest::wouldArriveWithForty);
    Check.sentence("wouldArrive: if there is no such unit or cell (checked first)",
        TryingSentencesTest::wouldArriveUnitAndCell);
    Check.sentence("wouldArrive: if the cell is a wall", TryingSentencesTest::wouldArriveWall);
  }

  private static void bestDelay() {
    Check.sentence("Returns the least number of turns (0 to 15) that pass first so that such an order, sent then, would "
        + "arrive", TryingSentencesTest::leastDelay);
    Check.sentence("bestDelay: NONE if there is none (as in wouldArrive)", TryingSentencesTest::noDelay);
    Check.sentence("bestDelay: if there is no such unit or cell (checked first)", TryingSentencesTest::bestDelayUnitAndCell);
    Check.sentence("bestDelay: if the cell is a wall", TryingSentencesTest::bestDelayWall);
  }

  private static void failing() {
    Check.sentence("failing: turns: 0 to 60", TryingSentencesTest::failingTurns);
    Check.sentence("Returns the number of orders on their way now", TryingSentencesTest::failingNow);
    Check.sentence("that would not be on their way any more behind so many turns and then be lost or intercepted",
        TryingSentencesTest::failingThen);
    Check.sentence("failing: if turns is out of range", TryingSentencesTest::failingRange);
  }

  private static void quotients() {
    Check.sentence("Returns the turns from sending to arrival of all orders that arrived, added and converted to double, "
        + "divided by their number", TryingSentencesTest::meanDelay);
    Check.sentence("meanDelay: 0 without any", TryingSentencesTest::noMeanDelay);
    Check.sentence("Returns the orders that are done divided by all orders, as floats", TryingSentencesTest::success);
    Check.sentence("success: 0 without orders", TryingSentencesTest::noSuccess);
  }

  private static void triedTurns() {
    MessengerBoard b = Check.boardOf("board 12 3;wall 1 0;wall 1 1;wall 1 2;unit 2 0 1;");
    Check.due("0", () -> b.wouldBe(0, 3, 0, 0), 0);
    Check.due("30", () -> b.wouldBe(0, 3, 0, 30), 0);
    Check.due("31", () -> b.wouldBe(0, 3, 0, 31), 4);
    Check.due("60", () -> b.wouldBe(0, 3, 0, 60), 4);
    Check.illegal("61", () -> b.wouldBe(0, 3, 0, 61));
    Check.illegal("-1", () -> b.wouldBe(0, 3, 0, -1));
    for (int odd : ODD) {
      Check.illegal("turns " + odd, () -> b.wouldBe(0, 3, 0, odd));
    }
    // A unit of pace 3 that comes to its goal on the sixtieth turn, not on the one ahead of it.
    MessengerBoard far = Check.boardOf("board 12 12;unit 0 0 3;");
    far.pass(1);
    Check.due("far: 59", () -> far.wouldBe(0, 11, 9, 59), 1);
    Check.due("far: 60", () -> far.wouldBe(0, 11, 9, 60), 2);
  }

  private static void triedStates() {
    MessengerBoard b = Check.boardOf("board 9 3;unit 4 0 1;picket 4 2 0 1 0 0;");
    Check.row("turns", turns -> b.wouldBe(0, 7, 0, turns), 0, 0, 1, 1, 2, 2);
    b.pass(3);
    b.send(0, 0, 0);
    Check.row("the same behind another one: turns", turns -> b.wouldBe(0, 7, 0, turns), 0, 0, 1, 1, 2, 2);
    b.movePicket(0, 1, 0);
    Check.row("intercepted: turns", turns -> b.wouldBe(0, 7, 0, turns), 0, 5, 5);
    MessengerBoard late = Check.boardOf(LookingSentencesTest.ring());
    late.pass(5);
    Check.due("on its way", () -> late.wouldBe(0, 0, 2, 10), 0);
    Check.due("late", () -> late.wouldBe(0, 0, 2, 11), 3);
  }

  private static void triedWithPlan() {
    MessengerBoard b = Check.boardOf("board 9 3;unit 2 0 3;plan 0 8 0 1;plan 0 7 0 2;");
    b.pass(1);
    Check.due("sent ahead of the plan for the present turn, which replaces it", () -> b.wouldBe(0, 5, 0, 1), 6);
    b.pass(1);
    Check.due("the plan for the next turn", () -> b.wouldBe(0, 5, 0, 1), 6);
    b.pass(1);
    Check.due("no plan any more", () -> b.wouldBe(0, 5, 0, 1), 1);
    MessengerBoard full = Check.boardOf("board 9 3;unit 2 0 3;plan 0 8 0 0;");
    for (int i = 0; i < 39; i++) {
      full.send(0, 8, 0);
    }
    Check.due("the 40th leaves the plan no room", () -> full.wouldBe(0, 2, 0, 1), 2);
  }

  private static MessengerBoard busy() {
    MessengerBoard b = Check.boardOf("board 9 4;unit 8 0 1;unit 3 3 2;picket 6 2 1 3 0 1;plan 0 0 3 2;plan 1 8 3 3;wall 4 1;");
    b.send(0, 4, 0);
    b.send(1, 0, 3);
    b.pass(2);
    return b;
  }

  private static void nothingElse() {
    String before = Picture.of(TryingSentencesTest::busy);
    Check.due("wouldBe changes nothing", () -> Picture.of(() -> {
      MessengerBoard b = busy();
      b.wouldBe(0, 0, 0, 60);
      return b;
    }).equals(before), true);
    Check.due("wouldArrive changes nothing", () -> Picture.of(() -> {
      MessengerBoard b = busy();
      b.wouldArrive(1, 0, 0);
      return b;
    }).equals(before), true);
    Check.due("bestDelay changes nothing", () -> Picture.of(() -> {
      MessengerBoard b = busy();
      b.bestDelay(1, 0, 0);
      return b;
    }).equals(before), true);
    Check.due("failing changes nothing", () -> Picture.of(() -> {
      MessengerBoard b = busy();
      b.failing(60);
      return b;
    }).equals(before), true);
    MessengerBoard b = busy();
    b.wouldBe(0, 0, 0, 60);
    b.bestDelay(0, 0, 0);
    Check.due("they are no operations", b::undoCount, 3);
    Check.due("no snapshot", b::restoreSnapshot, false);
    Check.due("the next order", () -> b.send(0, 0, 0), 2);
    Check.due("turns pass as told", () -> b.wouldBe(0, 1, 1, 3), 0);
  }

  private static MessengerBoard atTheEnd(String text) {
    MessengerBoard b = Check.boardOf(text);
    for (int i = 0; i < 8; i++) {
      b.pass(60);
    }
    b.pass(20);
    return b;
  }

  private static void beyondTheLastTurn() {
    MessengerBoard b = atTheEnd("board 9 3;unit 4 0 1;picket 3 2 1 20 10 19;");
    Check.due("no turn can pass", () -> b.pass(1), -2);
    Check.row("wouldBe: turns", turns -> b.wouldBe(0, 7, 0, turns), 0, 0, 1, 1, 2);
    Check.due("wouldBe 60", () -> b.wouldBe(0, 7, 0, 60), 2);
    Check.due("wouldArrive", () -> b.wouldArrive(0, 7, 0), 501);
    Check.due("bestDelay", () -> b.bestDelay(0, 7, 0), 0);
    b.send(0, 7, 0);
    b.wall(1, 0);
    b.wall(0, 1);
    Check.due("failing 30", () -> b.failing(30), 0);
    Check.due("failing 31", () -> b.failing(31), 1);
    MessengerBoard watched = atTheEnd("board 9 3;unit 4 0 1;picket 1 0 1 20 0 9;");
    Check.due("bestDelay to turn 510", () -> watched.bestDelay(0, 7, 0), 10);
  }

  private static MessengerBoard withOrders(int orders) {
    MessengerBoard b = Check.boardOf("board 3 3;wall 1 1;unit 2 2 1;");
    for (int i = 0; i < orders; i++) {
      b.send(0, 2, 0);
    }
    return b;
  }

  private static void wouldBeWithForty() {
    MessengerBoard b = withOrders(39);
    Check.due("with 39", () -> b.wouldBe(0, 2, 2, 0), 0);
    b.send(0, 2, 0);
    Check.due("with 40", () -> b.wouldBe(0, 2, 2, 0), -1);
    Check.due("with 40 and 60 turns", () -> b.wouldBe(0, 2, 2, 60), -1);
    b.pass(9);
    Check.due("with 40 that have ended", () -> b.wouldBe(0, 2, 2, 1), -1);
    Check.noSuch("no such unit", () -> b.wouldBe(1, 2, 2, 0));
    Check.noSuch("no such cell", () -> b.wouldBe(0, 3, 2, 0));
    Check.illegal("a wall", () -> b.wouldBe(0, 1, 1, 0));
    Check.illegal("61 turns", () -> b.wouldBe(0, 2, 2, 61));
  }

  private static void wouldBeUnitAndCell() {
    MessengerBoard b = withOrders(1);
    Check.due("the last unit and cell", () -> b.wouldBe(0, 2, 2, 0), 0);
    int[][] none = {{1, 0, 0, 0}, {-1, 0, 0, 0}, {0, 3, 0, 0}, {0, 0, 3, 0}, {0, -1, 0, 0}, {0, 0, -1, 0}, {1, 1, 1, 61},
        {0, 3, 0, 61}, {0, 0, -1, -1}, {6, 0, 0, 0}};
    for (int[] n : none) {
      Check.noSuch("wouldBe " + n[0] + " " + n[1] + " " + n[2] + " " + n[3], () -> b.wouldBe(n[0], n[1], n[2], n[3]));
    }
    Check.noSuch("a board without units", () -> new MessengerBoard().wouldBe(0, 1, 1, 1));
  }

  private static void wouldBeWallOrTurns() {
    MessengerBoard b = withOrders(1);
    Check.illegal("a wall", () -> b.wouldBe(0, 1, 1, 5));
    Check.illegal("a wall and 61 turns", () -> b.wouldBe(0, 1, 1, 61));
    Check.illegal("61 turns", () -> b.wouldBe(0, 2, 1, 61));
    Check.illegal("-1 turns", () -> b.wouldBe(0, 2, 1, -1));
    b.wall(1, 1);
    Check.due("no wall any more", () -> b.wouldBe(0, 1, 1, 5), 2);
  }

  private static void arrivalTurns() {
    for (int x = 0; x < 12; x++) {
      int far = x;
      MessengerBoard b = Check.boardOf("board 12 3;unit " + x + " 0 3;");
      Check.due("distance " + x, () -> b.wouldArrive(0, 5, 2), (far + 1) / 2 - (far == 0 ? 0 : 1));
      b.pass(7);
      Check.due("distance " + x + ", later", () -> b.wouldArrive(0, 5, 2), 7 + (far + 1) / 2 - (far == 0 ? 0 : 1));
    }
    MessengerBoard late = Check.boardOf(LookingSentencesTest.ring());
    late.pass(5);
    Check.due("also late", () -> late.wouldArrive(0, 0, 2), 15);
    // Ways of 61 to 63 steps: the greatest patience lasts for 62.
    int[] due = {30, 30, -1};
    for (int i = 0; i < due.length; i++) {
      MessengerBoard wound = Check.boardOf(TermsSentencesTest.serpentine() + "unit 8 " + (9 + i) + " 3;");
      int steps = 61 + i;
      int arrives = due[i];
      Check.due("the way", () -> wound.distance(0, 0, wound.unit(0, 0), wound.unit(0, 1)), steps);
      Check.due("a way of " + steps, () -> wound.wouldArrive(0, 0, 0), arrives);
      Check.due("its delay", () -> wound.bestDelay(0, 0, 0), arrives < 0 ? -1 : 0);
    }
    MessengerBoard moved = Check.boardOf("board 12 3;unit 5 0 1;plan 0 11 0 0;");
    Check.due("it follows the unit", () -> moved.wouldArrive(0, 0, 0), 2);
    moved.pass(3);
    Check.due("that goes on", () -> moved.wouldArrive(0, 0, 0), 7);
  }

  private static void noArrival() {
    MessengerBoard b = Check.boardOf("board 12 3;unit 11 2 1;unit 6 0 1;picket 1 0 0 1 0 0;patience 3;");
    Check.due("intercepted", () -> b.wouldArrive(1, 0, 0), -1);
    b.movePicket(0, 11, 2);
    Check.due("intercepted in the unit's cell", () -> b.wouldArrive(0, 0, 0), -1);
    b.movePicket(0, 11, 0);
    Check.due("in time", () -> b.wouldArrive(1, 0, 0), 2);
    Check.due("lost", () -> b.wouldArrive(0, 0, 0), -1);
    b.wall(1, 0);
    b.wall(0, 1);
    Check.due("no way", () -> b.wouldArrive(1, 0, 0), -1);
  }

  private static void wouldArriveWithForty() {
    MessengerBoard b = withOrders(39);
    Check.due("with 39", () -> b.wouldArrive(0, 2, 2), 1);
    b.send(0, 2, 0);
    Check.due("with 40", () -> b.wouldArrive(0, 2, 2), -1);
    Check.noSuch("no such unit", () -> b.wouldArrive(1, 2, 2));
    Check.illegal("a wall", () -> b.wouldArrive(0, 1, 1));
  }

  private static void wouldArriveUnitAndCell() {
    MessengerBoard b = withOrders(1);
    int[][] none = {{1, 0, 0}, {-1, 0, 0}, {0, 3, 0}, {0, 0, 3}, {0, -1, 0}, {0, 0, -1}, {1, 1, 1}};
    for (int[] n : none) {
      Check.noSuch("wouldArrive " + n[0] + " " + n[1] + " " + n[2], () -> b.wouldArrive(n[0], n[1], n[2]));
    }
    Check.noSuch("a board without units", () -> new MessengerBoard().wouldArrive(0, 1, 1));
  }

  private static void wouldArriveWall() {
    MessengerBoard b = withOrders(1);
    Check.illegal("a wall", () -> b.wouldArrive(0, 1, 1));
    Check.due("beside it", () -> b.wouldArrive(0, 2, 1), 1);
  }

  private static void leastDelay() {
    MessengerBoard b = Check.boardOf("board 5 3;unit 4 0 3;picket 2 0 3 20 0 14;");
    Check.due("15", () -> b.bestDelay(0, 4, 0), 15);
    for (int turn = 1; turn <= 15; turn++) {
      int left = 15 - turn;
      b.pass(1);
      Check.due("on turn " + turn, () -> b.bestDelay(0, 4, 0), left);
    }
    b.pass(1);
    Check.due("0 on turn 16, too", () -> b.bestDelay(0, 4, 0), 0);
    MessengerBoard gaps = Check.boardOf("board 5 3;unit 4 0 3;picket 2 0 0 3 0 0;");
    Check.due("the least one: sent on turn 1 it reaches the watched cell on turn 1", () -> gaps.bestDelay(0, 4, 0), 1);
  }

  private static void noDelay() {
    MessengerBoard b = Check.boardOf("board 5 3;unit 4 0 3;picket 2 0 3 20 0 15;");
    Check.due("not up to 15", () -> b.bestDelay(0, 4, 0), -1);
    MessengerBoard full = withOrders(39);
    Check.due("with 39 orders", () -> full.bestDelay(0, 2, 0), 0);
    full.send(0, 2, 0);
    Check.due("with 40 orders", () -> full.bestDelay(0, 2, 0), -1);
    Check.noSuch("no such unit", () -> full.bestDelay(1, 2, 2));
    Check.illegal("a wall", () -> full.bestDelay(0, 1, 1));
    MessengerBoard later = Check.boardOf("board 3 3;unit 2 2 1;plan 0 2 2 1;picket 1 1 1 20 0 2;");
    for (int i = 0; i < 39; i++) {
      later.send(0, 2, 2);
    }
    Check.due("with 40 orders in the meantime", () -> later.bestDelay(0, 2, 2), -1);
    later.undo();
    Check.due("and with room for one more", () -> later.bestDelay(0, 2, 2), 3);
  }

  private static void bestDelayUnitAndCell() {
    MessengerBoard b = withOrders(1);
    int[][] none = {{1, 0, 0}, {-1, 0, 0}, {0, 3, 0}, {0, 0, 3}, {0, -1, 0}, {0, 0, -1}, {1, 1, 1}};
    for (int[] n : none) {
      Check.noSuch("bestDelay " + n[0] + " " + n[1] + " " + n[2], () -> b.bestDelay(n[0], n[1], n[2]));
    }
    Check.noSuch("a board without units", () -> new MessengerBoard().bestDelay(0, 1, 1));
  }

  private static void bestDelayWall() {
    MessengerBoard b = withOrders(1);
    Check.illegal("a wall", () -> b.bestDelay(0, 1, 1));
    Check.due("beside it", () -> b.bestDelay(0, 2, 1), 0);
  }

  private static void failingTurns() {
    MessengerBoard b = Check.boardOf("board 5 3;wall 1 0;wall 0 1;unit 4 0 1;patience 30;");
    b.send(0, 3, 0);
    Check.due("0", () -> b.failing(0), 0);
    Check.due("30", () -> b.failing(30), 0);
    Check.due("31", () -> b.failing(31), 1);
    Check.due("60", () -> b.failing(60), 1);
    Check.illegal("61", () -> b.failing(61));
  }

  private static void failingNow() {
    MessengerBoard b = Check.boardOf("board 5 3;wall 1 0;wall 0 1;unit 4 0 1;patience 3;plan 0 2 2 1;plan 0 2 2 3;");
    Check.due("without orders", () -> b.failing(60), 0);
    b.send(0, 3, 0);
    b.send(0, 3, 0);
    Check.due("two", () -> b.failing(60), 2);
    b.pass(2);
    Check.due("three, when one of the plan is sent", () -> b.failing(60), 3);
    b.pass(2);
    Check.due("what was lost does not count", () -> b.failing(60), 2);
    b.pass(60);
    Check.due("none", () -> b.failing(60), 0);
    MessengerBoard full = Check.boardOf("board 3 3;wall 1 0;wall 0 1;unit 2 2 1;");
    for (int i = 0; i < 40; i++) {
      full.send(0, 2, 2);
    }
    Check.due("all forty", () -> full.failing(31), 40);
  }

  private static void failingThen() {
    MessengerBoard b = Check.boardOf("board 12 3;unit 2 0 1;unit 0 2 1;unit 11 2 1;picket 0 2 0 4 0 0;patience 2;");
    b.send(0, 5, 0);
    b.send(1, 5, 0);
    b.send(2, 5, 0);
    Check.row("one intercepted, one lost: turns", b::failing, 0, 1, 1, 2, 2);
    b.send(0, 4, 0);
    Check.due("neither done nor replaced ones", () -> b.failing(9), 2);
    MessengerBoard late = Check.boardOf(LookingSentencesTest.ring());
    late.pass(5);
    late.send(0, 0, 2);
    Check.due("nor late ones", () -> late.failing(20), 0);
  }

  private static void failingRange() {
    MessengerBoard b = new MessengerBoard();
    Check.due("60", () -> b.failing(60), 0);
    Check.illegal("61", () -> b.failing(61));
    for (int odd : ODD) {
      Check.illegal("turns " + odd, () -> b.failing(odd));
    }
  }

  private static void meanDelay() {
    MessengerBoard b = Check.boardOf("board 12 3;unit 1 0 3;unit 5 0 3;unit 3 0 3;");
    b.send(0, 1, 0);
    b.send(1, 5, 0);
    b.send(2, 3, 0);
    b.pass(1);
    Check.due("one on its own turn", b::meanDelay, 0.0);
    b.pass(1);
    Check.due("two", b::meanDelay, 0.5);
    b.pass(1);
    Check.due("three", b::meanDelay, 1.0);
    b.send(0, 1, 0);
    Check.due("one on its way does not count", b::meanDelay, 1.0);
    b.pass(1);
    Check.due("four", b::meanDelay, 3.0 / 4.0);
    b.send(2, 1, 0);
    b.send(2, 1, 0);
    b.pass(9);
    Check.due("six, and no rounding", b::meanDelay, 5.0 / 6.0);
    MessengerBoard one = Check.boardOf("board 12 3;unit 5 0 3;");
    one.send(0, 5, 0);
    one.pass(3);
    Check.due("one of two turns", one::meanDelay, 2.0);
    MessengerBoard late = Check.boardOf(LookingSentencesTest.ring());
    late.pass(5);
    late.send(0, 0, 2);
    late.pass(11);
    Check.due("a late one counts", late::meanDelay, 18.0 / 3.0);
  }

  private static void noMeanDelay() {
    Check.due("a new object", () -> new MessengerBoard().meanDelay(), 0.0);
    MessengerBoard b = Check.boardOf("board 12 3;unit 1 0 3;picket 1 0 0 1 0 0;");
    b.send(0, 1, 0);
    Check.due("one on its way", b::meanDelay, 0.0);
    b.pass(1);
    Check.due("one that is intercepted", b::meanDelay, 0.0);
  }

  private static void success() {
    MessengerBoard b = Check.boardOf("board 12 3;unit 1 0 3;unit 2 0 3;");
    b.send(0, 1, 0);
    Check.due("none of one", b::success, 0.0f);
    b.pass(1);
    Check.due("one of one", b::success, 1.0f);
    b.send(1, 9, 0);
    b.pass(1);
    Check.due("one of two", b::success, 0.5f);
    b.send(0, 5, 0);
    Check.due("one of three", b::success, 1.0f / 3.0f);
    MessengerBoard full = Check.boardOf("board 3 3;unit 1 0 1;unit 2 2 1;");
    for (int i = 0; i < 39; i++) {
      full.send(1, 2, 2);
    }
    full.send(0, 1, 0);
    full.pass(1);
    Check.due("one of forty", full::success, 1.0f / 40.0f);
  }

  private static void noSuccess() {
    Check.due("a new object", () -> new MessengerBoard().success(), 0.0f);
    MessengerBoard b = Check.boardOf("board 3 3;unit 0 0 1;");
    Check.due("a board with a unit", b::success, 0.0f);
    b.send(0, 0, 0);
    b.pass(1);
    b.undo();
    b.undo();
    Check.due("what is undone does not count", b::success, 0.0f);
  }
}
