/** A test of its own for each sentence of promises 5 to 18 that names a boundary. */
public final class LookingSentencesTest {
  private LookingSentencesTest() {
  }

  public static void main(String[] args) {
    numbersOfTheBoard();
    unitsAndPickets();
    ordersPlansEvents();
    cells();
    past();
    Check.end();
  }

  private static void numbersOfTheBoard() {
    Check.sentence("size: 0 width, 1 height, 2 units, 3 pickets, 4 orders, 5 the present turn, 6 walls, 7 events, 8 plans, "
        + "9 the patience, 10 x and 11 y of the headquarters", LookingSentencesTest::sizes);
    Check.sentence("size: if what is out of range", LookingSentencesTest::sizeRange);
  }

  private static void unitsAndPickets() {
    Check.sentence("unit: 0 its x, 1 its y, 2 its pace", LookingSentencesTest::unitNumbers);
    Check.sentence("3 the order with the greatest number that it has ever obeyed (NONE)", LookingSentencesTest::greatestObeyed);
    Check.sentence("4 the order that it obeys now, with state 1 (NONE)", LookingSentencesTest::obeyedNow);
    Check.sentence("5 how many orders for it are on their way", LookingSentencesTest::awaited);
    Check.sentence("if there is no such unit or what is out of range", LookingSentencesTest::unitRange);
    Check.sentence("picket: 0 its x, 1 its y, 2 its range, 3 its period, 4 its first and 5 its last number",
        LookingSentencesTest::picketNumbers);
    Check.sentence("6 1 if it watches on the present turn, otherwise 0", LookingSentencesTest::watchesNow);
    Check.sentence("7 how many messengers it has intercepted (of several pickets that could, the lowest one does)",
        LookingSentencesTest::caught);
    Check.sentence("if there is no such picket or what is out of range", LookingSentencesTest::picketRange);
  }

  private static void ordersPlansEvents() {
    Check.sentence("order: 0 its unit, 1 the x and 2 the y of its goal, 3 its state", LookingSentencesTest::orderNumbers);
    Check.sentence("4 the turn on which it was sent, 5 the turn on which it arrived (NONE)", LookingSentencesTest::arrival);
    Check.sentence("6 the turn of its end (states 2 to 6; NONE before)", LookingSentencesTest::endTurn);
    Check.sentence("7 the x and 8 the y of its messenger (as long as it is on its way, otherwise where the messenger was "
        + "last)", LookingSentencesTest::messengerCell);
    Check.sentence("9 the steps of its messenger (also the one with which it was intercepted)",
        LookingSentencesTest::messengerSteps);
    Check.sentence("if there is no such order or what is out of range", LookingSentencesTest::orderRange);
    Check.sentence("plan: if there is no such one or what is out of range", LookingSentencesTest::planRange);
    Check.sentence("if there is no such event or what is out of range", LookingSentencesTest::eventRange);
    Check.sentence("orders: state: 0 to 6", LookingSentencesTest::ordersInStates);
    Check.sentence("orders: if state is out of range", LookingSentencesTest::stateRange);
  }

  private static void cells() {
    Check.sentence("Returns whether a cell is a wall.", LookingSentencesTest::walls);
    Check.sentence("isWall: if there is no such cell", LookingSentencesTest::wallRange);
    Check.sentence("Returns whether a cell is in the range of a picket that watches on a turn.",
        LookingSentencesTest::watched);
    Check.sentence("isWatched: if there is no such cell (checked first)", LookingSentencesTest::watchedCellFirst);
    Check.sentence("isWatched: if turn is negative", LookingSentencesTest::watchedTurnRange);
    Check.sentence("distance: NONE if one is a wall or no way leads from one to the other",
        LookingSentencesTest::noDistance);
    Check.sentence("distance: if there is no such cell", LookingSentencesTest::distanceRange);
    Check.sentence("as 100 * y + x; the cell itself if it is the target", LookingSentencesTest::stepNames);
    Check.sentence("NONE if there is no such step, or one of the cells is a wall", LookingSentencesTest::noStep);
    Check.sentence("step: if there is no such cell", LookingSentencesTest::stepRange);
  }

  private static void past() {
    Check.sentence("Returns where a unit was at the beginning of a turn, as 100 * y + x.", LookingSentencesTest::wasAt);
    Check.sentence("wasAt: turn: 0 to the present turn", LookingSentencesTest::wasAtRange);
    Check.sentence("wasAt: if there is no such unit (checked first)", LookingSentencesTest::wasAtUnitFirst);
    Check.sentence("the state that an order had at the beginning of a turn, by the events of earlier turns",
        LookingSentencesTest::stateAt);
    Check.sentence("NONE up to the turn on which it was sent", LookingSentencesTest::stateBefore);
    Check.sentence("stateAt: turn: 0 to the present turn", LookingSentencesTest::stateAtRange);
    Check.sentence("stateAt: if there is no such order (checked first)", LookingSentencesTest::stateAtOrderFirst);
    Check.sentence("pairs of orders for the same unit", LookingSentencesTest::crossedUnits);
    Check.sentence("of which the one with the greater number arrived on an earlier turn",
        LookingSentencesTest::crossedTurns);
    Check.sentence("both having arrived (also late)", LookingSentencesTest::crossedArrivals);
  }

  private static final int[] ODD = {-1, -12, 1000, Integer.MIN_VALUE, Integer.MAX_VALUE, 715827883, 1 << 30, 1 << 31};

  private static void sizes() {
    MessengerBoard b = Check.boardOf("board 12 3;unit 11 2 1;unit 1 0 3;picket 11 0 0 1 0 0;wall 2 2;wall 3 2;wall 4 2;"
        + "patience 17;plan 1 5 1 20;plan 0 0 0 21;plan 0 0 0 22;plan 0 0 0 23;headquarters 1 2;");
    b.pass(1);
    for (int i = 0; i < 5; i++) {
      b.send(1, 7, 2);
    }
    b.pass(5);
    Check.row("size", b::size, 12, 3, 2, 1, 5, 6, 3, 9, 4, 17, 1, 2);
    b.setPatience(18);
    b.wall(2, 2);
    b.pass(1);
    Check.row("size then", b::size, 12, 3, 2, 1, 5, 7, 2, 9, 4, 18, 1, 2);
  }

  private static void sizeRange() {
    MessengerBoard b = new MessengerBoard();
    Check.due("size 11", () -> b.size(11), 0);
    Check.noSuch("size 12", () -> b.size(12));
    for (int what : ODD) {
      Check.noSuch("size " + what, () -> b.size(what));
    }
  }

  private static void unitNumbers() {
    MessengerBoard b = Check.boardOf("board 12 3;unit 11 2 3;unit 0 1 1;");
    Check.row("unit 0", what -> b.unit(0, what), 11, 2, 3);
    Check.row("unit 1", what -> b.unit(1, what), 0, 1, 1);
    b.send(1, 5, 1);
    b.pass(3);
    Check.row("unit 1 then", what -> b.unit(1, what), 3, 1, 1);
  }

  private static void greatestObeyed() {
    MessengerBoard b = Check.boardOf("board 9 3;unit 2 0 3;unit 8 2 1;");
    Check.due("none at first", () -> b.unit(0, 3), -1);
    b.pass(1);
    b.send(0, 2, 0);
    b.send(0, 5, 0);
    Check.due("none on its way", () -> b.unit(0, 3), -1);
    b.pass(1);
    Check.due("the second one", () -> b.unit(0, 3), 1);
    Check.due("not the other unit", () -> b.unit(1, 3), -1);
    b.pass(30);
    Check.due("also when it is done", () -> b.unit(0, 3), 1);
  }

  private static void obeyedNow() {
    MessengerBoard b = Check.boardOf("board 9 3;unit 2 0 3;");
    Check.due("none at first", () -> b.unit(0, 4), -1);
    b.pass(1);
    b.send(0, 4, 0);
    Check.due("none on its way", () -> b.unit(0, 4), -1);
    b.pass(1);
    Check.due("order 0 has the least number", () -> b.unit(0, 4), 0);
    b.send(0, 3, 0);
    b.pass(1);
    Check.due("the one that replaced it", () -> b.unit(0, 4), 1);
    b.pass(1);
    Check.due("none when it is done", () -> b.unit(0, 4), -1);
  }

  private static void awaited() {
    MessengerBoard b = Check.boardOf("board 9 3;unit 2 0 3;unit 8 2 3;");
    Check.due("none at first", () -> b.unit(1, 5), 0);
    for (int i = 0; i < 20; i++) {
      b.send(0, 4, 0);
      b.send(1, 4, 0);
    }
    Check.due("all twenty", () -> b.unit(0, 5), 20);
    Check.due("of the other one, too", () -> b.unit(1, 5), 20);
    b.pass(1);
    Check.due("none any more", () -> b.unit(0, 5), 0);
    Check.due("the others are far", () -> b.unit(1, 5), 20);
  }

  private static void unitRange() {
    MessengerBoard b = Check.boardOf("board 9 3;unit 2 0 3;unit 8 2 3;");
    Check.due("unit 1 5", () -> b.unit(1, 5), 0);
    Check.noSuch("unit 2 0", () -> b.unit(2, 0));
    Check.noSuch("unit 0 6", () -> b.unit(0, 6));
    Check.noSuch("unit 1 -1", () -> b.unit(1, -1));
    for (int odd : ODD) {
      Check.noSuch("unit " + odd, () -> b.unit(odd, 0));
      Check.noSuch("unit 0 " + odd, () -> b.unit(0, odd));
    }
    Check.noSuch("unit 0 of a board without one", () -> new MessengerBoard().unit(0, 0));
  }

  private static void picketNumbers() {
    MessengerBoard b = Check.boardOf("board 12 4;picket 11 3 2 19 17 18;picket 4 1 3 20 0 19;");
    Check.row("picket 0", what -> b.picket(0, what), 11, 3, 2, 19, 17, 18);
    Check.row("picket 1", what -> b.picket(1, what), 4, 1, 3, 20, 0, 19);
  }

  private static void watchesNow() {
    MessengerBoard b = Check.boardOf("board 12 4;picket 11 3 2 4 1 2;");
    int[] watches = {0, 1, 1, 0, 0, 1, 1, 0, 0};
    for (int turn = 0; turn < watches.length; turn++) {
      Check.due("turn " + turn, () -> b.picket(0, 6), watches[turn]);
      b.pass(1);
    }
  }

  private static void caught() {
    MessengerBoard b = Check.boardOf("board 9 3;unit 8 0 1;picket 8 2 0 1 0 0;picket 2 1 1 2 0 0;picket 1 0 0 1 0 0;"
        + "picket 2 0 0 1 0 0;");
    Check.row("none at first: picket", picket -> b.picket(picket, 7), 0, 0, 0, 0);
    b.send(0, 8, 1);
    b.pass(1);
    Check.row("the lowest of those that watch the cell: picket", picket -> b.picket(picket, 7), 0, 1, 0, 0);
    b.send(0, 8, 1);
    b.send(0, 8, 1);
    b.pass(1);
    Check.row("on turn 1 another one: picket", picket -> b.picket(picket, 7), 0, 1, 2, 0);
    b.movePicket(2, 8, 2);
    b.send(0, 8, 1);
    b.pass(1);
    Check.row("on turn 2 the first one again: picket", picket -> b.picket(picket, 7), 0, 2, 2, 0);
    b.undo();
    Check.row("undone: picket", picket -> b.picket(picket, 7), 0, 1, 2, 0);
  }

  private static void picketRange() {
    MessengerBoard b = Check.boardOf("board 9 3;picket 1 1 1 1 0 0;picket 2 1 1 1 0 0;");
    Check.due("picket 1 7", () -> b.picket(1, 7), 0);
    Check.noSuch("picket 2 0", () -> b.picket(2, 0));
    Check.noSuch("picket 0 8", () -> b.picket(0, 8));
    for (int odd : ODD) {
      Check.noSuch("picket " + odd, () -> b.picket(odd, 0));
      Check.noSuch("picket 0 " + odd, () -> b.picket(0, odd));
    }
    Check.noSuch("picket 0 of a board without one", () -> new MessengerBoard().picket(0, 0));
  }

  private static void orderNumbers() {
    MessengerBoard b = Check.boardOf("board 12 12;unit 0 0 1;unit 11 11 1;");
    b.send(1, 11, 10);
    b.send(0, 0, 0);
    Check.row("order 0", what -> b.order(0, what), 1, 11, 10, 0);
    Check.row("order 1", what -> b.order(1, what), 0, 0, 0, 0);
    b.pass(1);
    Check.row("order 1 then", what -> b.order(1, what), 0, 0, 0, 2);
  }

  private static void arrival() {
    MessengerBoard b = Check.boardOf("board 9 3;unit 2 0 3;unit 3 0 3;picket 0 1 0 1 0 0;unit 0 2 1;");
    b.send(0, 5, 0);
    Check.due("sent on turn 0", () -> b.order(0, 4), 0);
    Check.due("none before it arrives", () -> b.order(0, 5), -1);
    b.pass(1);
    Check.due("arrived on turn 0", () -> b.order(0, 5), 0);
    b.send(1, 5, 0);
    b.send(2, 5, 0);
    b.pass(1);
    Check.due("sent on turn 1", () -> b.order(1, 4), 1);
    Check.due("not yet", () -> b.order(1, 5), -1);
    b.pass(1);
    Check.due("arrived on turn 2", () -> b.order(1, 5), 2);
    Check.due("an intercepted one never", () -> b.order(2, 5), -1);
  }

  private static void endTurn() {
    MessengerBoard b = Check.boardOf("board 9 3;unit 2 0 1;unit 8 2 1;patience 2;");
    b.send(0, 4, 0);
    b.send(1, 4, 0);
    Check.due("none on its way", () -> b.order(0, 6), -1);
    b.pass(1);
    Check.due("none when it is obeyed", () -> b.order(0, 6), -1);
    b.pass(1);
    Check.due("done", () -> b.order(0, 6), 1);
    Check.due("not lost yet", () -> b.order(1, 6), -1);
    b.pass(1);
    Check.due("lost", () -> b.order(1, 6), 2);
    b.pass(9);
    Check.due("the end stays", () -> b.order(0, 6), 1);
    MessengerBoard zero = Check.boardOf("board 9 3;unit 2 0 1;picket 1 0 0 1 0 0;");
    zero.send(0, 4, 0);
    zero.pass(2);
    Check.due("intercepted on turn 0", () -> zero.order(0, 6), 0);
  }

  private static void messengerCell() {
    MessengerBoard b = Check.boardOf("board 9 3;headquarters 1 0;unit 4 0 1;unit 8 2 1;patience 1;");
    b.send(0, 8, 0);
    b.send(1, 8, 0);
    Check.due("at the headquarters", () -> b.order(0, 7) + " " + b.order(0, 8), "1 0");
    b.pass(1);
    Check.due("on its way", () -> b.order(0, 7) + " " + b.order(0, 8), "3 0");
    b.pass(1);
    Check.due("where it arrived", () -> b.order(0, 7) + " " + b.order(0, 8), "4 0");
    Check.due("where it was lost", () -> b.order(1, 7) + " " + b.order(1, 8), "5 0");
    b.pass(3);
    Check.due("it does not go with the unit", () -> b.order(0, 7) + " " + b.unit(0, 0), "4 8");
  }

  private static void messengerSteps() {
    MessengerBoard b = Check.boardOf("board 9 3;unit 6 0 1;picket 3 0 0 1 0 0;");
    b.send(0, 8, 0);
    Check.due("none", () -> b.order(0, 9), 0);
    b.pass(1);
    Check.due("two", () -> b.order(0, 9), 2);
    b.pass(1);
    Check.due("three, the last one with the interception", () -> b.order(0, 9), 3);
    b.pass(1);
    Check.due("no more", () -> b.order(0, 9), 3);
    MessengerBoard far = Check.boardOf("board 12 12;unit 11 11 1;");
    far.send(0, 0, 0);
    far.pass(11);
    Check.due("all 22", () -> far.order(0, 9), 22);
  }

  private static void orderRange() {
    MessengerBoard b = Check.boardOf("board 9 3;unit 2 0 3;");
    Check.noSuch("order 0 of none", () -> b.order(0, 0));
    b.send(0, 1, 1);
    b.send(0, 1, 1);
    Check.due("order 1 9", () -> b.order(1, 9), 0);
    Check.noSuch("order 2 0", () -> b.order(2, 0));
    Check.noSuch("order 0 10", () -> b.order(0, 10));
    for (int odd : ODD) {
      Check.noSuch("order " + odd, () -> b.order(odd, 0));
      Check.noSuch("order 0 " + odd, () -> b.order(0, odd));
    }
    b.undo();
    Check.noSuch("an order that is undone", () -> b.order(1, 0));
  }

  private static void planRange() {
    MessengerBoard b = Check.boardOf("board 9 3;unit 2 0 3;unit 0 0 1;plan 1 8 2 499;plan 0 0 1 0;");
    Check.row("plan 0", what -> b.plan(0, what), 1, 8, 2, 499);
    Check.row("plan 1", what -> b.plan(1, what), 0, 0, 1, 0);
    Check.noSuch("plan 2 0", () -> b.plan(2, 0));
    Check.noSuch("plan 0 4", () -> b.plan(0, 4));
    for (int odd : ODD) {
      Check.noSuch("plan " + odd, () -> b.plan(odd, 0));
      Check.noSuch("plan 0 " + odd, () -> b.plan(0, odd));
    }
    Check.noSuch("plan 0 of a board without one", () -> new MessengerBoard().plan(0, 0));
    b.pass(2);
    Check.due("a plan that was sent stays", () -> b.plan(1, 3), 0);
  }

  private static void eventRange() {
    MessengerBoard b = Check.boardOf("board 9 3;unit 2 0 3;");
    Check.noSuch("event 0 of none", () -> b.event(0, 0));
    b.send(0, 2, 0);
    b.pass(1);
    Check.row("event 1", what -> b.event(1, what), 0, 0, 2);
    Check.noSuch("event 2 0", () -> b.event(2, 0));
    Check.noSuch("event 0 3", () -> b.event(0, 3));
    for (int odd : ODD) {
      Check.noSuch("event " + odd, () -> b.event(odd, 0));
      Check.noSuch("event 0 " + odd, () -> b.event(0, odd));
    }
    b.undo();
    Check.noSuch("an event that is undone", () -> b.event(0, 0));
  }

  private static void ordersInStates() {
    MessengerBoard b = Check.boardOf("board 9 3;unit 2 0 3;unit 8 2 1;unit 0 2 1;patience 1;picket 0 1 0 1 0 0;");
    Check.row("none at first: state", b::orders, 0, 0, 0, 0, 0, 0, 0);
    b.pass(1);
    for (int i = 0; i < 4; i++) {
      b.send(0, 8, 0);
    }
    b.send(1, 0, 0);
    b.send(1, 0, 0);
    b.send(2, 5, 2);
    Check.row("on their way: state", b::orders, 7, 0, 0, 0, 0, 0, 0);
    b.pass(1);
    Check.row("turn 1: state", b::orders, 2, 1, 0, 0, 0, 1, 3);
    b.pass(30);
    Check.row("at last: state", b::orders, 0, 0, 1, 0, 2, 1, 3);
  }

  private static void stateRange() {
    MessengerBoard b = new MessengerBoard();
    Check.due("state 6", () -> b.orders(6), 0);
    Check.illegal("state 7", () -> b.orders(7));
    for (int odd : ODD) {
      Check.illegal("state " + odd, () -> b.orders(odd));
    }
  }

  private static void walls() {
    MessengerBoard b = Check.boardOf("board 12 12;wall 11 11;wall 0 11;wall 11 0;");
    Check.due("the last cell", () -> b.isWall(11, 11), true);
    Check.due("the last row", () -> b.isWall(0, 11), true);
    Check.due("the last column", () -> b.isWall(11, 0), true);
    Check.due("the first cell", () -> b.isWall(0, 0), false);
    Check.due("a cell beside", () -> b.isWall(10, 11), false);
    MessengerBoard first = Check.boardOf("board 12 12;headquarters 1 1;wall 0 0;");
    Check.due("a wall in the first cell", () -> first.isWall(0, 0), true);
    first.wall(0, 0);
    Check.due("and none", () -> first.isWall(0, 0), false);
  }

  private static void wallRange() {
    MessengerBoard b = Check.boardOf("board 4 3;wall 0 1;wall 3 2;");
    Check.noSuch("column 4", () -> b.isWall(4, 0));
    Check.noSuch("row 3", () -> b.isWall(0, 3));
    Check.noSuch("column 12 is no next row", () -> b.isWall(12, 0));
    for (int odd : ODD) {
      Check.noSuch("column " + odd, () -> b.isWall(odd, 1));
      Check.noSuch("row " + odd, () -> b.isWall(1, odd));
    }
  }

  private static void watched() {
    MessengerBoard b = Check.boardOf("board 9 9;picket 1 1 1 2 0 0;picket 3 1 1 3 2 2;");
    Check.row("one of them: turn", turn -> b.isWatched(0, 0, turn), true, false, true, false);
    Check.row("the other one: turn", turn -> b.isWatched(4, 0, turn), false, false, true, false);
    Check.row("both: turn", turn -> b.isWatched(2, 0, turn), true, false, true, false, true, true);
    Check.due("none", () -> b.isWatched(5, 5, 2), false);
    b.pass(1);
    Check.due("the turn is the asked one, not the present one", () -> b.isWatched(0, 0, 0), true);
    Check.due("far later", () -> b.isWatched(0, 0, Integer.MAX_VALUE - 1), true);
    Check.due("the last turn there is", () -> b.isWatched(0, 0, Integer.MAX_VALUE), false);
    Check.due("a board without pickets", () -> new MessengerBoard().isWatched(0, 0, 0), false);
  }

  private static void watchedCellFirst() {
    MessengerBoard b = Check.boardOf("board 4 3;picket 1 1 3 1 0 0;");
    Check.noSuch("column 4", () -> b.isWatched(4, 0, 0));
    Check.noSuch("row 3", () -> b.isWatched(0, 3, 0));
    Check.noSuch("column -1", () -> b.isWatched(-1, 0, 0));
    Check.noSuch("row -1", () -> b.isWatched(0, -1, 0));
    Check.noSuch("column 4 ahead of the turn", () -> b.isWatched(4, 0, -1));
    Check.noSuch("row 3 ahead of the turn", () -> b.isWatched(0, 3, Integer.MIN_VALUE));
  }

  private static void watchedTurnRange() {
    MessengerBoard b = Check.boardOf("board 4 3;picket 1 1 3 1 0 0;");
    Check.due("turn 0", () -> b.isWatched(0, 0, 0), true);
    Check.illegal("turn -1", () -> b.isWatched(0, 0, -1));
    Check.illegal("the least turn", () -> b.isWatched(0, 0, Integer.MIN_VALUE));
  }

  private static void noDistance() {
    MessengerBoard b = Check.boardOf("board 5 3;wall 2 0;wall 2 1;wall 2 2;");
    Check.due("no way", () -> b.distance(0, 0, 4, 0), -1);
    Check.due("no way back", () -> b.distance(4, 0, 0, 0), -1);
    Check.due("to a wall", () -> b.distance(1, 1, 2, 1), -1);
    Check.due("from a wall", () -> b.distance(2, 1, 1, 1), -1);
    Check.due("from wall to wall", () -> b.distance(2, 1, 2, 2), -1);
    Check.due("from a wall to itself", () -> b.distance(2, 1, 2, 1), -1);
    Check.due("on one side", () -> b.distance(3, 0, 4, 2), 3);
    b.wall(2, 1);
    Check.due("through a gap", () -> b.distance(0, 0, 4, 0), 6);
    Check.due("and back", () -> b.distance(4, 0, 0, 0), 6);
    MessengerBoard first = Check.boardOf("board 4 4;headquarters 3 3;wall 0 0;");
    Check.due("to the first cell, a wall", () -> first.distance(0, 1, 0, 0), -1);
    Check.due("from the first cell", () -> first.distance(0, 0, 0, 1), -1);
    first.wall(0, 0);
    Check.due("to the first cell", () -> first.distance(3, 3, 0, 0), 6);
    first.wall(2, 3);
    first.wall(3, 2);
    Check.due("shut off from it", () -> first.distance(3, 3, 0, 0), -1);
  }

  private static void distanceRange() {
    MessengerBoard b = Check.boardOf("board 4 3;wall 1 1;");
    Check.due("the last cell", () -> b.distance(3, 2, 3, 2), 0);
    int[][] none = {{4, 0, 0, 0}, {0, 3, 0, 0}, {0, 0, 4, 0}, {0, 0, 0, 3}, {-1, 0, 0, 0}, {0, -1, 0, 0}, {0, 0, -1, 0},
        {0, 0, 0, -1}, {1, 1, 4, 0}, {4, 0, 1, 1}, {4, 3, 4, 3}, {12, 0, 0, 1}};
    for (int[] n : none) {
      Check.noSuch("distance " + n[0] + " " + n[1] + " " + n[2] + " " + n[3], () -> b.distance(n[0], n[1], n[2], n[3]));
    }
  }

  private static void stepNames() {
    MessengerBoard b = Check.boardOf("board 12 12;");
    Check.due("the last cell itself", () -> b.step(11, 11, 11, 11), 1111);
    Check.due("the first cell itself", () -> b.step(0, 0, 0, 0), 0);
    Check.due("to the last cell", () -> b.step(10, 11, 11, 11), 1111);
    Check.due("to the first cell", () -> b.step(1, 0, 0, 0), 0);
    Check.due("the way to it", () -> b.step(0, 10, 11, 0), 900);
  }

  private static void noStep() {
    MessengerBoard b = Check.boardOf("board 5 3;wall 2 0;wall 2 1;wall 2 2;");
    Check.due("no way", () -> b.step(1, 0, 3, 0), -1);
    Check.due("to a wall", () -> b.step(1, 1, 2, 1), -1);
    Check.due("from a wall", () -> b.step(2, 1, 1, 1), -1);
    Check.due("from wall to wall", () -> b.step(2, 1, 2, 2), -1);
    Check.due("from a wall to itself", () -> b.step(2, 1, 2, 1), -1);
    Check.due("on one side", () -> b.step(3, 0, 4, 2), 4);
  }

  private static void stepRange() {
    MessengerBoard b = Check.boardOf("board 4 3;wall 1 1;");
    Check.due("the last cell", () -> b.step(3, 2, 3, 2), 203);
    int[][] none = {{4, 0, 0, 0}, {0, 3, 0, 0}, {0, 0, 4, 0}, {0, 0, 0, 3}, {-1, 0, 0, 0}, {0, -1, 0, 0}, {0, 0, -1, 0},
        {0, 0, 0, -1}, {1, 1, 4, 0}, {4, 0, 1, 1}, {4, 3, 4, 3}, {12, 0, 0, 1}};
    for (int[] n : none) {
      Check.noSuch("step " + n[0] + " " + n[1] + " " + n[2] + " " + n[3], () -> b.step(n[0], n[1], n[2], n[3]));
    }
  }

  private static void wasAt() {
    MessengerBoard b = Check.boardOf("board 12 12;unit 11 11 1;headquarters 11 11;unit 0 0 1;");
    b.send(0, 0, 11);
    b.pass(14);
    Check.row("unit 0 on turn", turn -> b.wasAt(0, turn), 1111, 1110, 1109, 1108, 1107, 1106, 1105, 1104, 1103, 1102, 1101,
        1100, 1100, 1100, 1100);
    Check.row("unit 1 on turn", turn -> b.wasAt(1, turn), 0, 0, 0);
  }

  private static void wasAtRange() {
    MessengerBoard b = Check.boardOf("board 3 3;unit 2 1 1;");
    Check.due("turn 0", () -> b.wasAt(0, 0), 102);
    Check.illegal("turn 1 before it comes", () -> b.wasAt(0, 1));
    Check.illegal("turn -1", () -> b.wasAt(0, -1));
    for (int i = 0; i < 8; i++) {
      b.pass(60);
    }
    b.pass(20);
    Check.due("turn 500", () -> b.wasAt(0, 500), 102);
    Check.due("turn 499", () -> b.wasAt(0, 499), 102);
    Check.due("turn 0 still", () -> b.wasAt(0, 0), 102);
    Check.illegal("turn 501", () -> b.wasAt(0, 501));
    b.undo();
    Check.due("turn 480", () -> b.wasAt(0, 480), 102);
    Check.illegal("turn 481 is undone", () -> b.wasAt(0, 481));
    for (int odd : ODD) {
      Check.illegal("turn " + odd, () -> b.wasAt(0, odd));
    }
  }

  private static void wasAtUnitFirst() {
    MessengerBoard b = Check.boardOf("board 3 3;unit 2 1 1;");
    Check.noSuch("unit 1", () -> b.wasAt(1, 0));
    Check.noSuch("unit 1 ahead of the turn", () -> b.wasAt(1, -1));
    Check.noSuch("unit -1 ahead of the turn", () -> b.wasAt(-1, 1));
    for (int odd : ODD) {
      Check.noSuch("unit " + odd, () -> b.wasAt(odd, 0));
    }
  }

  private static void stateAt() {
    MessengerBoard b = Check.boardOf("board 9 3;unit 4 0 1;picket 8 2 0 1 0 0;");
    b.send(0, 7, 0);
    b.pass(2);
    b.send(0, 8, 2);
    b.pass(6);
    // Order 0 arrives on turn 1 and is done on turn 3; order 1 arrives on turn 5 and is done on turn 7.
    Check.row("order 0 on turn", turn -> b.stateAt(0, turn), -1, 0, 1, 1, 2, 2, 2, 2, 2);
    Check.row("order 1 on turn", turn -> b.stateAt(1, turn), -1, -1, -1, 0, 0, 0, 1, 1, 2);
    MessengerBoard same = Check.boardOf("board 9 3;unit 2 0 1;");
    same.send(0, 2, 0);
    same.pass(1);
    Check.row("obeyed and done on one turn: turn", turn -> same.stateAt(0, turn), -1, 2);
    MessengerBoard replaced = Check.boardOf("board 9 3;unit 2 0 3;");
    replaced.pass(1);
    replaced.send(0, 8, 0);
    replaced.pass(1);
    replaced.send(0, 7, 0);
    replaced.pass(1);
    Check.row("replaced: turn", turn -> replaced.stateAt(0, turn), -1, -1, 1, 6);
  }

  private static void stateBefore() {
    MessengerBoard b = Check.boardOf("board 9 3;unit 8 2 1;plan 0 1 1 2;");
    b.send(0, 7, 0);
    Check.due("sent on turn 0", () -> b.stateAt(0, 0), -1);
    b.pass(4);
    Check.row("order 0 on turn", turn -> b.stateAt(0, turn), -1, 0, 0, 0, 0);
    Check.row("the planned one on turn", turn -> b.stateAt(1, turn), -1, -1, -1, 0, 0);
    b.send(0, 6, 0);
    Check.due("sent on the present turn", () -> b.stateAt(2, 4), -1);
  }

  private static void stateAtRange() {
    MessengerBoard b = Check.boardOf("board 9 3;unit 8 2 1;");
    b.send(0, 7, 0);
    b.pass(3);
    Check.due("turn 3", () -> b.stateAt(0, 3), 0);
    Check.illegal("turn 4", () -> b.stateAt(0, 4));
    Check.illegal("turn -1", () -> b.stateAt(0, -1));
    for (int odd : ODD) {
      Check.illegal("turn " + odd, () -> b.stateAt(0, odd));
    }
    b.undo();
    Check.illegal("turn 1 is undone", () -> b.stateAt(0, 1));
  }

  private static void stateAtOrderFirst() {
    MessengerBoard b = Check.boardOf("board 9 3;unit 8 2 1;");
    Check.noSuch("order 0 of none", () -> b.stateAt(0, 0));
    b.send(0, 7, 0);
    Check.noSuch("order 1", () -> b.stateAt(1, 0));
    Check.noSuch("order 1 ahead of the turn", () -> b.stateAt(1, 1));
    Check.noSuch("order -1 ahead of the turn", () -> b.stateAt(-1, -1));
    for (int odd : ODD) {
      Check.noSuch("order " + odd, () -> b.stateAt(odd, 0));
    }
  }

  /**
   * A ring: the unit sets out from its right end on turn 6 and comes back along the lower side, while the
   * messenger of an order that is sent on turn 5 follows along the upper one and meets it on turn 15 only.
   */
  static String ring() {
    StringBuilder text = new StringBuilder("board 12 3;headquarters 0 1;unit 11 1 1;plan 0 0 2 0;plan 0 0 2 12;");
    for (int x = 1; x <= 10; x++) {
      text.append("wall ").append(x).append(" 1;");
    }
    return text.toString();
  }

  private static void crossedUnits() {
    MessengerBoard b = Check.boardOf("board 9 3;unit 8 2 1;unit 0 0 1;");
    b.send(0, 1, 1);
    b.send(1, 1, 1);
    b.send(1, 2, 1);
    b.pass(20);
    Check.due("all arrived", () -> b.orders(0), 0);
    Check.due("of two units none is crossed", b::crossed, 0);
    MessengerBoard one = Check.boardOf(ring());
    one.pass(5);
    one.send(0, 0, 2);
    one.pass(10);
    Check.due("not before the older one arrives", one::crossed, 0);
    one.pass(1);
    Check.due("of one unit they are", one::crossed, 1);
  }

  private static void crossedTurns() {
    MessengerBoard same = Check.boardOf("board 9 3;unit 2 0 1;");
    same.send(0, 8, 0);
    same.send(0, 7, 0);
    same.pass(1);
    same.send(0, 6, 0);
    same.pass(9);
    Check.due("on the same turn and in order", same::crossed, 0);
    MessengerBoard first = TermsSentencesTest.overtaken(3, 4, 0);
    Check.due("before the older one arrives", first::crossed, 0);
    first.wall(3, 0);
    first.pass(1);
    Check.due("orders 0 and 1", first::crossed, 1);
    MessengerBoard b = Check.boardOf(ring());
    b.pass(5);
    b.send(0, 0, 2);
    b.send(0, 0, 2);
    b.pass(7);
    b.send(0, 0, 2);
    b.pass(4);
    Check.row("arrived: order", order -> b.order(order, 5), 6, 15, 15, 14, 14);
    Check.due("each pair counts", b::crossed, 4);
  }

  private static void crossedArrivals() {
    MessengerBoard b = Check.boardOf(ring() + "picket 4 2 0 20 15 15;");
    b.pass(5);
    b.send(0, 0, 2);
    b.pass(15);
    Check.due("intercepted before it arrived", () -> b.order(1, 3), 5);
    Check.due("so that nothing crossed", b::crossed, 0);
    MessengerBoard late = Check.boardOf(ring());
    late.pass(5);
    late.send(0, 0, 2);
    late.pass(11);
    Check.due("late", () -> late.order(1, 3), 3);
    Check.due("arrived on turn 15", () -> late.order(1, 5), 15);
    Check.due("crossed", late::crossed, 1);
    late.undo();
    Check.due("undone", late::crossed, 0);
  }
}
