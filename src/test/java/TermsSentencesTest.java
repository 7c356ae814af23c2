/** A test of its own for each sentence of "The board", "Orders" and "Turns" that names a boundary. */
public final class TermsSentencesTest {
  private TermsSentencesTest() {
  }

  public static void main(String[] args) {
    theBoard();
    theOrders();
    theTurns();
    Check.end();
  }

  private static void theBoard() {
    Check.sentence("An object is used for at most 512 calls after it has been made", TermsSentencesTest::lastCall);
    Check.sentence("The board has a width and a height (3 to 12 each).", TermsSentencesTest::sides);
    Check.sentence("A cell is named by x (from 0, to the right) and y (from 0, downward)", TermsSentencesTest::cells);
    Check.sentence("There is one headquarters, in a free cell", TermsSentencesTest::headquarters);
    Check.sentence("at most 6 units, numbered from 0", TermsSentencesTest::sixUnits);
    Check.sentence("each in a free cell (several ones can be in the same cell)", TermsSentencesTest::unitCells);
    Check.sentence("with a pace (1 to 3)", TermsSentencesTest::paceNumbers);
    Check.sentence("at most 4 pickets, numbered from 0", TermsSentencesTest::fourPickets);
    Check.sentence("each in a cell (also a wall)", TermsSentencesTest::picketCells);
    Check.sentence("with a range (0 to 3)", TermsSentencesTest::rangeNumbers);
    Check.sentence("a period (1 to 20)", TermsSentencesTest::periods);
    Check.sentence("a first and a last number within the period (first not above last)", TermsSentencesTest::firstAndLast);
    Check.sentence("Turns are numbered from 0; the present turn is 0 at first.", TermsSentencesTest::firstTurn);
    Check.sentence("A way leads from a free cell to free cells beside it", TermsSentencesTest::ways);
    Check.sentence("The distance of two free cells is the least number of steps of a way.", TermsSentencesTest::distances);
    Check.sentence("goes to the first of the cells beside it, in the order up, right, down, left", TermsSentencesTest::directions);
    Check.sentence("whose distance to the target is less than that of the cell itself", TermsSentencesTest::lessDistance);
    Check.sentence("there is none if no way leads to the target", TermsSentencesTest::noStep);
    Check.sentence("A picket watches on a turn if the turn modulo its period is from its first to its last number.",
        TermsSentencesTest::watchedTurns);
    Check.sentence("both its x and its y differ from those of the picket by at most the range", TermsSentencesTest::ranges);
    Check.sentence("(Walls do not matter.)", TermsSentencesTest::watchedWalls);
  }

  private static void theOrders() {
    Check.sentence("There are at most 40 orders, numbered from 0 in the order in which they are sent.",
        TermsSentencesTest::fortyOrders);
    Check.sentence("States of an order: 0 on its way, 1 obeyed, 2 done, 3 late, 4 lost, 5 intercepted, 6 replaced.",
        TermsSentencesTest::states);
    Check.sentence("a messenger carries it, who begins in the cell of the headquarters when it is sent",
        TermsSentencesTest::messengerBegins);
    Check.sentence("if the unit has already obeyed an order with a greater number, this one is late",
        TermsSentencesTest::lateOrders);
    Check.sentence("Otherwise the unit obeys it", TermsSentencesTest::notLate);
    Check.sentence("an order that it obeyed so far (state 1) is replaced, and this one is obeyed",
        TermsSentencesTest::replacedOrders);
  }

  private static void theTurns() {
    Check.sentence("There is a plan: at most 20 orders that will be sent", TermsSentencesTest::twentyPlans);
    Check.sentence("When the present turn passes, this happens in this order", TermsSentencesTest::phases);
    Check.sentence("The orders of the plan for the present turn are sent, in the order of the plan.",
        TermsSentencesTest::plannedOrders);
    Check.sentence("(With 40 orders they are left out.)", TermsSentencesTest::plansLeftOut);
    Check.sentence("The messengers, by ascending numbers of their orders, go on.", TermsSentencesTest::messengersInOrder);
    Check.sentence("If a messenger is in the cell of the unit, the order arrives.", TermsSentencesTest::alreadyThere);
    Check.sentence("Otherwise the messenger takes a step toward the unit's cell", TermsSentencesTest::towardTheUnit);
    Check.sentence("if the cell that is reached is in the range of a picket that watches on the present turn, the order "
        + "is intercepted", TermsSentencesTest::intercepted);
    Check.sentence("otherwise, if the unit is there, the order arrives", TermsSentencesTest::oneStep);
    Check.sentence("otherwise the messenger takes a second step in the same way, with the same consequences",
        TermsSentencesTest::secondStep);
    Check.sentence("If there is no step to take, the messenger stays where it is.", TermsSentencesTest::messengerStays);
    Check.sentence("lost if the present turn less the turn on which it was sent is at least the patience (1 to 30)",
        TermsSentencesTest::lostOrders);
    Check.sentence("The units, by ascending numbers", TermsSentencesTest::unitsInOrder);
    Check.sentence("if a unit has an obeyed order (state 1) and is in the goal of it, this order is done",
        TermsSentencesTest::inTheGoal);
    Check.sentence("if it has one and the present turn modulo its pace is 0, it takes a step toward the goal",
        TermsSentencesTest::paces);
    Check.sentence("if there is one; and if it is in the goal then, the order is done", TermsSentencesTest::lastStep);
    Check.sentence("The present turn becomes the next one.", TermsSentencesTest::nextTurn);
    Check.sentence("All that ends an order (states 2 to 6) is an event of the present turn", TermsSentencesTest::ends);
    Check.sentence("and so is that an order is obeyed (state 1)", TermsSentencesTest::obeyedIsAnEvent);
    Check.sentence("events are kept in the order in which they happen", TermsSentencesTest::eventsInOrder);
    Check.sentence("(When an order replaces another one, the event of the replaced one is first.)",
        TermsSentencesTest::replacedFirst);
  }

  /** The dearest calls, again and again: the 512th one of an object still answers. */
  private static void lastCall() {
    String text = "board 12 12;unit 11 11 3;unit 11 0 1;picket 6 6 3 1 0 0;picket 0 6 3 1 0 0;";
    MessengerBoard tried = Check.boardOf(text);
    int used = (text.length() + 19) / 20 + 1;
    for (; used < 511; used++) {
      tried.bestDelay(0, 0, 11);
    }
    Check.due("the 512th call is bestDelay", () -> tried.bestDelay(1, 0, 11), 0);
    MessengerBoard saved = Check.boardOf("board 12 12;unit 11 11 3;");
    for (used = 3; used < 511; used += 2) {
      saved.setPatience(1 + used % 30);
      saved.saveSnapshot();
    }
    Check.due("the 512th call is undo", saved::undo, 9);
    MessengerBoard fed = new MessengerBoard();
    for (used = 0; used < 510; used += 2) {
      fed.feed(0x626f6172, 0x64203320, 0x343b2020, 0x20202020, 0x20202020);
      fed.load(20);
    }
    fed.feed(0x626f6172, 0x64203320, 0x343b2020, 0x20202020, 0x20202020);
    Check.due("the 512th call is load", () -> fed.load(20), 0);
  }

  private static void sides() {
    Check.badText("board 2 3;", 2, 6);
    Check.badText("board 3 2;", 2, 8);
    Check.badText("board 13 12;", 2, 6);
    Check.badText("board 12 13;", 2, 9);
    MessengerBoard wide = Check.boardOf("board 12 3;");
    Check.row("wide: size", wide::size, 12, 3);
    Check.due("wide: the last cell", () -> wide.isWall(11, 2), false);
    Check.noSuch("wide: beyond", () -> wide.isWall(2, 11));
    MessengerBoard high = Check.boardOf("board 3 12;");
    Check.row("high: size", high::size, 3, 12);
    Check.due("high: the last cell", () -> high.isWall(2, 11), false);
    Check.noSuch("high: beyond", () -> high.isWall(11, 2));
  }

  private static void cells() {
    MessengerBoard b = Check.boardOf("board 4 3;wall 3 0;wall 0 2;");
    Check.due("row 0", () -> Check.rowOf(b, 0), "h..#");
    Check.due("row 1", () -> Check.rowOf(b, 1), "....");
    Check.due("row 2", () -> Check.rowOf(b, 2), "#...");
    int[][] none = {{-1, 0}, {0, -1}, {4, 0}, {0, 3}, {Integer.MIN_VALUE, 0}, {0, Integer.MIN_VALUE},
        {Integer.MAX_VALUE, 0}, {0, Integer.MAX_VALUE}, {0, 357913942}, {12, -1}, {-12, 1}, {0, 1 << 30}, {1 << 30, 0}};
    for (int[] cell : none) {
      Check.noSuch("cell " + cell[0] + " " + cell[1], () -> b.isWall(cell[0], cell[1]));
    }
  }

  private static void headquarters() {
    Check.badText("board 3 3;wall 2 1;headquarters 2 1;", 4, 34);
    Check.badText("board 3 3;headquarters 2 1;wall 2 1;", 4, 34);
    MessengerBoard b = Check.boardOf("board 3 3;headquarters 2 1;");
    Check.due("x", () -> b.size(10), 2);
    Check.due("y", () -> b.size(11), 1);
    Check.due("no wall there", () -> b.wall(2, 1), -2);
    Check.due("a wall beside it", () -> b.wall(1, 1), 1);
  }

  private static void sixUnits() {
    String six = "board 8 3;unit 1 0 1;unit 2 0 1;unit 3 0 1;unit 4 0 1;unit 5 0 1;unit 6 0 1;";
    MessengerBoard b = Check.boardOf(six);
    Check.due("units", () -> b.size(2), 6);
    Check.row("x of unit", unit -> b.unit(unit, 0), 1, 2, 3, 4, 5, 6);
    Check.noSuch("unit 6", () -> b.unit(6, 0));
    Check.badText(six + "unit 7 0 1;", 3, six.length());
    Check.due("none at first", () -> new MessengerBoard().size(2), 0);
  }

  private static void unitCells() {
    MessengerBoard b = Check.boardOf("board 3 3;unit 1 1 1;unit 1 1 2;unit 1 1 3;unit 1 1 1;unit 1 1 2;unit 1 1 3;");
    Check.due("six in one cell", () -> b.size(2), 6);
    Check.due("no wall there", () -> b.wall(1, 1), -2);
    Check.badText("board 3 3;wall 1 2;unit 1 2 1;", 4, 26);
    Check.badText("board 3 3;unit 1 2 1;wall 1 2;", 4, 28);
  }

  private static void paceNumbers() {
    MessengerBoard b = Check.boardOf("board 3 3;unit 0 0 1;unit 0 0 2;unit 0 0 3;");
    Check.row("pace of unit", unit -> b.unit(unit, 2), 1, 2, 3);
    Check.badText("board 3 3;unit 0 0 0;", 2, 19);
    Check.badText("board 3 3;unit 0 0 4;", 2, 19);
  }

  private static void fourPickets() {
    String four = "board 8 3;picket 1 0 0 1 0 0;picket 2 0 0 1 0 0;picket 3 0 0 1 0 0;picket 4 0 0 1 0 0;";
    MessengerBoard b = Check.boardOf(four);
    Check.due("pickets", () -> b.size(3), 4);
    Check.row("x of picket", picket -> b.picket(picket, 0), 1, 2, 3, 4);
    Check.noSuch("picket 4", () -> b.picket(4, 0));
    Check.badText(four + "picket 5 0 0 1 0 0;", 3, four.length());
    Check.due("none at first", () -> new MessengerBoard().size(3), 0);
  }

  private static void picketCells() {
    MessengerBoard b = Check.boardOf("board 3 3;wall 1 1;picket 1 1 0 1 0 0;picket 2 1 0 1 0 0;wall 2 1;");
    Check.due("told in a wall", () -> b.isWatched(1, 1, 0), true);
    Check.due("a wall told on it", () -> b.isWall(2, 1), true);
    Check.due("moved to a wall", () -> b.movePicket(0, 2, 1), 1);
    Check.due("moved to the headquarters", () -> b.movePicket(1, 0, 0), 1);
    Check.due("a wall where it is", () -> b.wall(2, 1), 1);
    Check.due("and again", () -> b.wall(2, 1), 2);
  }

  private static void rangeNumbers() {
    MessengerBoard b = Check.boardOf("board 9 9;picket 4 4 0 1 0 0;picket 4 4 3 1 0 0;");
    Check.due("range 0", () -> b.picket(0, 2), 0);
    Check.due("range 3", () -> b.picket(1, 2), 3);
    Check.badText("board 9 9;picket 4 4 4 1 0 0;", 2, 21);
  }

  private static void periods() {
    MessengerBoard b = Check.boardOf("board 9 9;picket 4 4 0 1 0 0;picket 4 4 0 20 0 0;");
    Check.due("period 1", () -> b.picket(0, 3), 1);
    Check.due("period 20", () -> b.picket(1, 3), 20);
    Check.badText("board 9 9;picket 4 4 0 0 0 0;", 2, 23);
    Check.badText("board 9 9;picket 4 4 0 21 0 0;", 2, 23);
  }

  private static void firstAndLast() {
    MessengerBoard b = Check.boardOf("board 9 9;picket 4 4 0 20 0 19;picket 4 4 0 20 19 19;picket 4 4 0 5 3 3;"
        + "picket 4 4 0 1 0 0;");
    Check.row("first of picket", picket -> b.picket(picket, 4), 0, 19, 3, 0);
    Check.row("last of picket", picket -> b.picket(picket, 5), 19, 19, 3, 0);
    Check.badText("board 9 9;picket 4 4 0 20 20 20;", 2, 26);
    Check.badText("board 9 9;picket 4 4 0 20 19 20;", 2, 29);
    Check.badText("board 9 9;picket 4 4 0 1 1 1;", 2, 25);
    Check.badText("board 9 9;picket 4 4 0 1 0 1;", 2, 27);
    Check.badText("board 9 9;picket 4 4 0 5 3 2;", 4, 27);
    Check.badText("board 9 9;picket 4 4 0 5 1 0;", 4, 27);
  }

  private static void firstTurn() {
    Check.due("of a new object", () -> new MessengerBoard().size(5), 0);
    MessengerBoard b = Check.boardOf("board 3 3;unit 0 0 1;plan 0 0 0 0;");
    Check.due("of a loaded board", () -> b.size(5), 0);
    b.pass(1);
    Check.due("the plan for turn 0 was sent", () -> b.size(4), 1);
    Check.due("the first event is one of turn 0", () -> b.event(0, 0), 0);
    Check.due("the next turn", () -> b.size(5), 1);
  }

  private static void ways() {
    MessengerBoard b = Check.boardOf("board 12 12;");
    Check.due("no way from the right edge to the left", () -> b.distance(11, 5, 0, 5), 11);
    Check.due("nor to the next row", () -> b.distance(11, 5, 0, 6), 12);
    Check.due("nor back", () -> b.distance(0, 6, 11, 5), 12);
    Check.due("nor from the bottom to the top", () -> b.distance(3, 11, 3, 0), 11);
    Check.due("from corner to corner", () -> b.distance(0, 0, 11, 11), 22);
    Check.due("nor is a slant one step", () -> b.distance(4, 4, 5, 5), 2);
    int[] beside = {407, 508, 607, 506};
    int[][] targets = {{7, 4}, {8, 5}, {7, 6}, {6, 5}};
    Check.row("one step", i -> b.step(7, 5, targets[i][0], targets[i][1]), beside[0], beside[1], beside[2], beside[3]);
    Check.row("its distance", i -> b.distance(7, 5, targets[i][0], targets[i][1]), 1, 1, 1, 1);
    MessengerBoard small = Check.boardOf("board 3 3;");
    Check.due("a small board: to the next row", () -> small.distance(2, 0, 0, 1), 3);
    Check.due("a small board: from corner to corner", () -> small.distance(2, 0, 0, 2), 4);
  }

  /** Five walls that are open at the bottom and at the top by turns: the longest way goes through all columns. */
  static String serpentine() {
    StringBuilder text = new StringBuilder("board 12 12;");
    for (int x = 1; x < 11; x += 2) {
      for (int y = 0; y < 11; y++) {
        text.append("wall ").append(x).append(' ').append(x % 4 == 1 ? y : y + 1).append(';');
      }
    }
    return text.toString();
  }

  private static void distances() {
    MessengerBoard b = Check.boardOf("board 5 3;wall 1 0;wall 1 1;");
    Check.due("of a cell from itself", () -> b.distance(2, 2, 2, 2), 0);
    Check.due("round a wall", () -> b.distance(0, 0, 2, 0), 6);
    b.wall(1, 0);
    Check.due("the shorter one of two ways", () -> b.distance(0, 0, 2, 0), 2);
    MessengerBoard wound = Check.boardOf(serpentine());
    Check.due("the longest one", () -> wound.distance(0, 0, 11, 0), 77);
    Check.due("the other way round", () -> wound.distance(11, 0, 0, 0), 77);
    Check.due("its first step", () -> wound.step(0, 0, 11, 0), 100);
  }

  private static void directions() {
    MessengerBoard b = Check.boardOf("board 3 3;");
    Check.due("up ahead of right", () -> b.step(1, 1, 2, 0), 1);
    Check.due("up ahead of left", () -> b.step(1, 1, 0, 0), 1);
    Check.due("right ahead of down", () -> b.step(1, 1, 2, 2), 102);
    Check.due("down ahead of left", () -> b.step(1, 1, 0, 2), 201);
    b.wall(1, 1);
    Check.due("up ahead of down", () -> b.step(0, 1, 2, 1), 0);
    Check.due("up ahead of down, on the right", () -> b.step(2, 1, 0, 1), 2);
    Check.due("right ahead of left", () -> b.step(1, 2, 1, 0), 202);
    Check.due("right ahead of left, at the top", () -> b.step(1, 0, 1, 2), 2);
  }

  private static void lessDistance() {
    MessengerBoard b = Check.boardOf("board 5 3;wall 2 1;wall 2 2;");
    Check.due("not straight on into the wall", () -> b.step(1, 1, 3, 1), 1);
    Check.due("not away from the target", () -> b.step(1, 0, 4, 0), 2);
    Check.due("down, though up and right are free", () -> b.step(3, 1, 3, 2), 203);
    Check.due("left, though all are free", () -> b.step(4, 1, 3, 1), 103);
    Check.due("away from a dead end", () -> b.step(1, 2, 3, 2), 101);
  }

  private static void noStep() {
    MessengerBoard b = Check.boardOf("board 3 3;wall 1 0;wall 0 1;");
    Check.due("out of a shut corner", () -> b.step(0, 0, 2, 2), -1);
    Check.due("into it", () -> b.step(2, 2, 0, 0), -1);
    b.wall(1, 0);
    Check.due("when it is open", () -> b.step(0, 0, 2, 2), 1);
  }

  private static void watchedTurns() {
    MessengerBoard b = Check.boardOf("board 12 3;picket 0 0 0 5 1 3;picket 2 0 0 1 0 0;picket 4 0 0 20 19 19;"
        + "picket 6 0 0 3 0 2;");
    Check.row("period 5 from 1 to 3: turn", turn -> b.isWatched(0, 0, turn),
        false, true, true, true, false, false, true, true, true, false, false);
    Check.row("period 1: turn", turn -> b.isWatched(2, 0, turn), true, true, true);
    Check.row("period 20 at 19: turn 18 and", turn -> b.isWatched(4, 0, 18 + turn), false, true, false);
    Check.row("period 20 at 19: turn 38 and", turn -> b.isWatched(4, 0, 38 + turn), false, true, false);
    Check.row("the whole period: turn", turn -> b.isWatched(6, 0, turn), true, true, true, true);
  }

  private static void ranges() {
    MessengerBoard b = Check.boardOf("board 12 12;picket 5 5 3 1 0 0;picket 11 0 0 1 0 0;");
    Check.row("along x", x -> b.isWatched(x, 5, 0), false, false, true, true, true, true, true, true, true, false, false);
    Check.row("along y", y -> b.isWatched(5, y, 0), false, false, true, true, true, true, true, true, true, false, false);
    Check.due("the corner of both", () -> b.isWatched(2, 8, 0), true);
    Check.due("beyond the corner by x", () -> b.isWatched(1, 8, 0), false);
    Check.due("beyond the corner by y", () -> b.isWatched(2, 9, 0), false);
    Check.due("range 0", () -> b.isWatched(11, 0, 0), true);
    Check.due("beside range 0", () -> b.isWatched(10, 0, 0), false);
    Check.due("not over the edge", () -> b.isWatched(0, 1, 0), false);
  }

  private static void watchedWalls() {
    MessengerBoard b = Check.boardOf("board 5 3;picket 1 1 1 1 0 0;wall 1 0;wall 1 1;wall 1 2;wall 2 0;");
    Check.due("a wall in the range", () -> b.isWatched(2, 0, 0), true);
    Check.due("behind a wall", () -> b.isWatched(2, 1, 0), true);
    Check.due("beyond the range", () -> b.isWatched(3, 1, 0), false);
  }

  private static void fortyOrders() {
    MessengerBoard b = Check.boardOf("board 9 9;unit 8 8 1;");
    Check.due("none at first", () -> b.size(4), 0);
    Check.row("send", i -> b.send(0, i % 9, i / 9), 0, 1, 2, 3, 4);
    for (int i = 5; i < 39; i++) {
      b.send(0, i % 9, i / 9);
    }
    Check.due("the 40th", () -> b.send(0, 3, 4), 39);
    Check.due("the 41st", () -> b.send(0, 4, 4), -3);
    Check.due("orders", () -> b.size(4), 40);
    Check.row("x of order", order -> b.order(order, 1), 0, 1, 2, 3, 4);
    Check.due("the last one", () -> b.order(39, 2), 4);
    Check.noSuch("order 40", () -> b.order(40, 0));
  }

  /**
   * Order 0's messenger is shut in at 2 0 with the unit at 4 0; order 1, sent on turn 1 by another way of
   * eight steps, arrives on turn 4 if nobody intercepts it. The present turn is 5.
   */
  static MessengerBoard overtaken(int pace, int x, int y) {
    MessengerBoard b = Check.boardOf("board 5 3;unit 4 0 " + pace + ";picket 2 1 0 1 0 0;");
    b.send(0, 0, 2);
    b.pass(1);
    b.wall(1, 0);
    b.wall(3, 0);
    b.wall(2, 1);
    b.send(0, x, y);
    b.pass(4);
    return b;
  }

  private static void states() {
    MessengerBoard late = overtaken(3, 4, 0);
    Check.due("on its way", () -> late.order(0, 3), 0);
    Check.due("done", () -> late.order(1, 3), 2);
    late.wall(3, 0);
    late.pass(1);
    Check.due("late", () -> late.order(0, 3), 3);
    MessengerBoard b = Check.boardOf("board 9 3;unit 2 0 3;unit 8 2 1;unit 0 2 1;patience 1;picket 0 1 0 1 0 0;");
    b.pass(1);
    b.send(0, 8, 0);
    b.send(0, 7, 0);
    b.send(1, 0, 0);
    b.send(2, 5, 2);
    b.pass(1);
    Check.due("replaced", () -> b.order(0, 3), 6);
    Check.due("obeyed", () -> b.order(1, 3), 1);
    Check.due("intercepted", () -> b.order(3, 3), 5);
    b.pass(1);
    Check.due("lost", () -> b.order(2, 3), 4);
  }

  private static void messengerBegins() {
    MessengerBoard b = Check.boardOf("board 5 4;headquarters 3 2;unit 0 0 1;plan 0 0 0 1;");
    b.send(0, 4, 3);
    Check.due("x", () -> b.order(0, 7), 3);
    Check.due("y", () -> b.order(0, 8), 2);
    Check.due("steps", () -> b.order(0, 9), 0);
    Check.due("seen there", () -> Check.rowOf(b, 2), "...m.");
    b.pass(2);
    Check.due("the planned one goes on from there", () -> b.order(1, 7) + " " + b.order(1, 8), "3 0");
  }

  private static void lateOrders() {
    MessengerBoard obeyed = overtaken(3, 4, 2);
    Check.due("the newer one is obeyed", () -> obeyed.order(1, 3), 1);
    obeyed.wall(3, 0);
    obeyed.pass(1);
    Check.due("behind an obeyed one", () -> obeyed.order(0, 3), 3);
    Check.due("which stays obeyed", () -> obeyed.unit(0, 4), 1);
    MessengerBoard done = overtaken(3, 4, 0);
    done.wall(3, 0);
    done.pass(1);
    Check.due("behind one that is done", () -> done.order(0, 3), 3);
    Check.due("which stays done", () -> done.order(1, 3), 2);
    Check.due("the unit stays", () -> done.wasAt(0, 6), 4);
  }

  private static void notLate() {
    MessengerBoard b = Check.boardOf("board 5 3;unit 4 0 3;picket 1 1 0 1 0 0;");
    b.send(0, 0, 2);
    b.pass(1);
    b.wall(1, 0);
    b.wall(3, 0);
    b.wall(2, 1);
    b.send(0, 4, 2);
    b.pass(4);
    Check.due("the newer one never arrived", () -> b.order(1, 3), 5);
    b.wall(3, 0);
    b.pass(1);
    Check.due("so the older one is obeyed", () -> b.order(0, 3), 1);
    Check.due("by the unit", () -> b.unit(0, 3), 0);
    MessengerBoard other = Check.boardOf("board 5 3;unit 4 0 3;unit 1 0 3;");
    other.send(0, 0, 2);
    other.send(1, 0, 2);
    other.pass(2);
    Check.due("a greater order of another unit does not matter", () -> other.order(0, 3), 1);
  }

  private static void replacedOrders() {
    MessengerBoard b = Check.boardOf("board 5 3;unit 2 0 3;unit 2 0 3;");
    b.pass(1);
    b.send(0, 4, 2);
    b.send(1, 4, 2);
    b.pass(1);
    b.send(0, 2, 0);
    b.pass(1);
    Check.due("the one that was obeyed", () -> b.order(0, 3), 6);
    Check.due("the other unit's", () -> b.order(1, 3), 1);
    Check.due("the new one is done at once", () -> b.order(2, 3), 2);
    b.send(0, 0, 2);
    b.pass(1);
    Check.due("one that is done is not replaced", () -> b.order(2, 3), 2);
    Check.due("the next one is obeyed", () -> b.unit(0, 4), 3);
  }

  private static void twentyPlans() {
    StringBuilder text = new StringBuilder("board 9 9;unit 8 8 1;");
    for (int i = 0; i < 20; i++) {
      text.append("plan 0 0 ").append(i % 9).append(' ').append(i).append(';');
    }
    MessengerBoard b = Check.boardOf(text.toString());
    Check.due("plans", () -> b.size(8), 20);
    Check.due("the last one", () -> b.plan(19, 3), 19);
    Check.noSuch("plan 20", () -> b.plan(20, 3));
    b.pass(20);
    Check.due("all are sent", () -> b.size(4), 20);
    Check.badText(text + "plan 0 0 0 0;", 3, text.length());
    Check.due("none at first", () -> new MessengerBoard().size(8), 0);
  }

  private static void phases() {
    MessengerBoard b = Check.boardOf("board 12 3;unit 2 0 1;unit 11 2 1;unit 6 0 1;plan 0 3 0 2;patience 2;");
    b.send(1, 0, 0);
    b.send(2, 6, 0);
    b.pass(3);
    Check.due("the planned order is sent and arrives on one turn", () -> b.order(2, 4) + " " + b.order(2, 5), "2 2");
    Check.due("a messenger goes on ahead of what is lost", () -> b.order(1, 5), 2);
    Check.due("a unit that obeys sets out on the same turn", () -> b.wasAt(0, 3), 3);
    Check.row("what is lost is ahead of what is done: event", event -> Check.eventOf(b, event), "2 1 1", "2 2 1", "2 0 4",
        "2 2 2", "2 1 2");
    MessengerBoard chased = Check.boardOf("board 12 3;unit 3 0 1;");
    chased.send(0, 11, 0);
    chased.pass(1);
    chased.send(0, 11, 2);
    chased.pass(3);
    Check.due("messengers go to where the unit is before it moves", () -> chased.order(1, 7) + " " + chased.order(1, 5),
        "4 2");
  }

  private static void plannedOrders() {
    MessengerBoard b = Check.boardOf("board 9 3;unit 8 2 1;plan 0 1 0 3;plan 0 2 0 1;plan 0 3 0 3;plan 0 4 0 0;");
    b.pass(1);
    Check.due("turn 0", () -> b.size(4), 1);
    b.pass(1);
    Check.due("turn 1", () -> b.size(4), 2);
    b.pass(1);
    Check.due("turn 2", () -> b.size(4), 2);
    b.pass(1);
    Check.due("turn 3", () -> b.size(4), 4);
    Check.row("x of the goal of order", order -> b.order(order, 1), 4, 2, 1, 3);
    Check.row("turn of order", order -> b.order(order, 4), 0, 1, 3, 3);
    Check.due("a planned messenger goes on at once", () -> b.order(3, 9), 2);
    b.pass(60);
    Check.due("no plan is sent twice", () -> b.size(4), 4);
    MessengerBoard last = Check.boardOf("board 3 3;unit 2 2 1;plan 0 1 1 499;");
    for (int i = 0; i < 8; i++) {
      last.pass(60);
    }
    last.pass(19);
    Check.due("turn 498", () -> last.size(4), 0);
    last.pass(1);
    Check.due("turn 499", () -> last.order(0, 4), 499);
  }

  private static void plansLeftOut() {
    MessengerBoard b = Check.boardOf("board 3 3;unit 2 2 1;plan 0 1 1 0;plan 0 2 1 0;plan 0 2 2 1;");
    for (int i = 0; i < 39; i++) {
      b.send(0, 0, 0);
    }
    b.pass(1);
    Check.due("one finds room", () -> b.size(4), 40);
    Check.due("the first one", () -> b.order(39, 1), 1);
    b.pass(3);
    Check.due("the others are never sent", () -> b.size(4), 40);
    Check.due("but stay in the plan", () -> b.plan(2, 3), 1);
  }

  private static void messengersInOrder() {
    MessengerBoard b = Check.boardOf("board 5 3;unit 2 0 3;unit 1 0 3;");
    b.pass(1);
    b.send(0, 4, 2);
    b.send(1, 4, 2);
    b.send(0, 3, 2);
    b.pass(1);
    Check.due("events", () -> b.size(7), 4);
    Check.row("event", event -> Check.eventOf(b, event), "1 0 1", "1 1 1", "1 0 6", "1 2 1");
  }

  private static void alreadyThere() {
    MessengerBoard b = Check.boardOf("board 5 3;unit 0 0 3;picket 0 0 1 1 0 0;");
    b.pass(1);
    b.send(0, 4, 0);
    b.pass(1);
    Check.due("though it is watched", () -> b.order(0, 3), 1);
    Check.due("without a step", () -> b.order(0, 9), 0);
    Check.due("on its turn", () -> b.order(0, 5), 1);
    // The unit walks from 4 0 to the headquarters and meets the second messenger at 2 0 on turn 2.
    MessengerBoard met = Check.boardOf("board 12 3;unit 4 0 1;");
    met.send(0, 0, 0);
    met.pass(2);
    met.send(0, 5, 0);
    met.pass(1);
    Check.due("not arrived before the unit moves", () -> met.order(1, 3), 0);
    met.pass(1);
    Check.due("arrived where it was", () -> met.order(1, 7) + " " + met.order(1, 9), "2 2");
    Check.due("on the next turn", () -> met.order(1, 5), 3);
  }

  private static void towardTheUnit() {
    MessengerBoard b = Check.boardOf("board 9 9;unit 4 4 1;unit 8 0 1;");
    b.send(0, 0, 8);
    b.send(1, 0, 8);
    b.pass(1);
    Check.due("right is ahead of down, not toward the goal", () -> b.order(0, 7) + " " + b.order(0, 8), "2 0");
    Check.due("two steps", () -> b.order(1, 7) + " " + b.order(1, 9), "2 2");
  }

  private static void intercepted() {
    MessengerBoard b = Check.boardOf("board 9 3;unit 1 0 1;unit 0 1 1;picket 1 0 0 2 0 0;");
    b.send(0, 5, 0);
    b.send(1, 5, 0);
    b.pass(1);
    Check.due("ahead of the arrival", () -> b.order(0, 3), 5);
    Check.due("it did not arrive", () -> b.order(0, 5), -1);
    Check.due("its step counts", () -> b.order(0, 9), 1);
    Check.due("its end", () -> b.order(0, 6), 0);
    Check.due("in another cell nobody is intercepted", () -> b.order(1, 5), 0);
    b.send(0, 5, 0);
    b.pass(1);
    Check.due("the picket does not watch on turn 1", () -> b.order(2, 3), 1);
    MessengerBoard start = Check.boardOf("board 9 3;unit 8 0 1;picket 0 0 0 1 0 0;");
    start.send(0, 0, 0);
    start.pass(1);
    Check.due("where it begins nobody is intercepted", () -> start.order(0, 3), 0);
  }

  private static void oneStep() {
    MessengerBoard b = Check.boardOf("board 9 3;unit 1 0 3;picket 2 0 0 1 0 0;");
    b.pass(1);
    b.send(0, 0, 0);
    b.pass(1);
    Check.due("arrived", () -> b.order(0, 5), 1);
    Check.due("with one step and no second one", () -> b.order(0, 7) + " " + b.order(0, 9), "1 1");
  }

  private static void secondStep() {
    MessengerBoard b = Check.boardOf("board 9 3;unit 2 0 3;unit 3 0 3;unit 0 2 3;picket 0 2 0 2 1 1;");
    b.pass(1);
    b.send(0, 0, 0);
    b.send(1, 0, 0);
    b.send(2, 0, 0);
    b.pass(1);
    Check.due("arrived with the second step", () -> b.order(0, 5) + " " + b.order(0, 9), "1 2");
    Check.due("no third step", () -> b.order(1, 3) + " " + b.order(1, 7) + " " + b.order(1, 9), "0 2 2");
    Check.due("intercepted with the second step", () -> b.order(2, 3) + " " + b.order(2, 8) + " " + b.order(2, 9), "5 2 2");
    b.pass(1);
    Check.due("the third step on the next turn", () -> b.order(1, 5) + " " + b.order(1, 9), "2 3");
  }

  private static void messengerStays() {
    MessengerBoard b = Check.boardOf("board 5 3;wall 1 0;wall 0 1;unit 4 0 1;picket 0 0 0 1 0 0;");
    b.send(0, 3, 0);
    Check.due("nothing happens", () -> b.pass(20), 0);
    Check.due("without a step", () -> b.order(0, 7) + " " + b.order(0, 8) + " " + b.order(0, 9), "0 0 0");
    Check.due("on its way still", () -> b.order(0, 3), 0);
    b.wall(1, 0);
    b.pass(1);
    Check.due("it goes on when there is a way", () -> b.order(0, 9), 2);
  }

  private static void lostOrders() {
    String text = "board 12 3;unit 11 2 1;unit 6 0 3;unit 7 0 3;picket 7 0 0 1 0 0;patience ";
    MessengerBoard one = Check.boardOf(text + "1;");
    one.send(0, 0, 0);
    Check.due("patience 1: not on its own turn", () -> one.pass(1), 0);
    Check.due("patience 1: on the next one", () -> one.pass(1), 1);
    Check.due("patience 1: lost", () -> Check.eventOf(one, 0), "1 0 4");
    MessengerBoard three = Check.boardOf(text + "2;");
    three.pass(2);
    three.send(1, 6, 0);
    three.send(2, 7, 0);
    three.send(0, 0, 0);
    three.pass(2);
    Check.due("patience 2: not yet", () -> three.orders(0), 3);
    three.pass(1);
    Check.due("arriving on the last turn is in time", () -> three.order(0, 3), 2);
    Check.due("a messenger a step farther is lost", () -> three.order(1, 3), 4);
    Check.due("and so is one that is far off", () -> three.order(2, 3) + " " + three.order(2, 6), "4 4");
    MessengerBoard most = Check.boardOf("board 5 3;wall 1 0;wall 0 1;unit 4 0 1;patience 30;");
    most.send(0, 4, 0);
    Check.due("patience 30: not on turn 29", () -> most.pass(30), 0);
    Check.due("patience 30: on turn 30", () -> most.pass(1), 1);
    Check.due("patience 30: lost", () -> Check.eventOf(most, 0), "30 0 4");
    MessengerBoard less = Check.boardOf("board 5 3;wall 1 0;wall 0 1;unit 4 0 1;");
    less.send(0, 4, 0);
    less.pass(9);
    less.setPatience(3);
    Check.due("more than the patience, too", () -> less.pass(1), 1);
    Check.due("lost on turn 9", () -> Check.eventOf(less, 0), "9 0 4");
    Check.badText("board 3 3;patience 0;", 2, 19);
    Check.badText("board 3 3;patience 31;", 2, 19);
  }

  private static void unitsInOrder() {
    MessengerBoard b = Check.boardOf("board 5 3;unit 1 0 1;unit 2 0 1;");
    b.send(1, 2, 0);
    b.send(0, 1, 0);
    b.pass(1);
    Check.row("event", event -> Check.eventOf(b, event), "0 0 1", "0 1 1", "0 1 2", "0 0 2");
  }

  private static void inTheGoal() {
    MessengerBoard b = Check.boardOf("board 5 3;unit 1 0 3;");
    b.pass(1);
    b.send(0, 1, 0);
    b.pass(1);
    Check.due("done whatever the pace is", () -> Check.eventOf(b, 1), "1 0 2");
    b.pass(5);
    Check.due("and once only", () -> b.size(7), 2);
    Check.due("the unit stays", () -> b.wasAt(0, 7), 1);
  }

  private static void paces() {
    MessengerBoard b = Check.boardOf("board 12 3;unit 0 0 1;unit 0 1 2;unit 0 2 3;");
    b.send(0, 11, 0);
    b.send(1, 11, 1);
    b.send(2, 11, 2);
    b.pass(8);
    Check.row("pace 1: turn", turn -> b.wasAt(0, turn), 0, 1, 2, 3, 4, 5, 6, 7);
    Check.row("pace 2: turn", turn -> b.wasAt(1, turn), 100, 101, 101, 102, 102, 103, 103, 104);
    Check.row("pace 3: turn", turn -> b.wasAt(2, turn), 200, 201, 201, 201, 202, 202, 202, 203);
    MessengerBoard idle = Check.boardOf("board 12 3;unit 3 0 1;");
    idle.pass(9);
    Check.due("without an order no step", () -> idle.wasAt(0, 9), 3);
  }

  private static void lastStep() {
    MessengerBoard b = Check.boardOf("board 5 3;unit 1 0 1;");
    b.send(0, 2, 0);
    b.pass(1);
    Check.due("done with the step into the goal", () -> b.order(0, 3) + " " + b.order(0, 6), "2 0");
    MessengerBoard shut = Check.boardOf("board 5 3;unit 2 0 3;");
    shut.pass(1);
    shut.send(0, 4, 2);
    shut.pass(1);
    shut.wall(1, 0);
    shut.wall(3, 0);
    shut.wall(2, 1);
    Check.due("a unit that is shut in", () -> shut.pass(7), 0);
    Check.due("stays where it is", () -> shut.wasAt(0, 9), 2);
    shut.wall(3, 0);
    shut.pass(1);
    Check.due("and goes on when there is a way", () -> shut.wasAt(0, 10), 3);
    MessengerBoard walled = Check.boardOf("board 5 3;unit 2 0 1;plan 0 4 2 0;wall 4 2;");
    walled.pass(9);
    Check.due("so does a unit with a goal in a wall", () -> walled.wasAt(0, 9), 2);
    Check.due("which obeys", () -> walled.order(0, 3), 1);
  }

  private static void nextTurn() {
    MessengerBoard b = new MessengerBoard();
    b.pass(1);
    Check.due("by one", () -> b.size(5), 1);
    b.pass(60);
    Check.due("each time", () -> b.size(5), 61);
  }

  private static void ends() {
    MessengerBoard late = overtaken(3, 4, 0);
    late.wall(3, 0);
    Check.due("one event for a late order", () -> late.pass(1), 1);
    Check.due("late", () -> Check.eventOf(late, late.size(7) - 1), "5 0 3");
    Check.due("done", () -> Check.eventOf(late, 1), "4 1 2");
    MessengerBoard b = Check.boardOf("board 9 3;unit 2 0 3;unit 8 2 1;unit 0 2 1;patience 1;picket 0 1 0 1 0 0;");
    b.pass(1);
    b.send(0, 8, 0);
    b.send(0, 7, 0);
    b.send(1, 0, 0);
    b.send(2, 5, 2);
    b.pass(2);
    Check.row("event", event -> Check.eventOf(b, event), "1 0 1", "1 0 6", "1 1 1", "1 3 5", "2 2 4");
    Check.due("no other event", () -> b.size(7), 5);
  }

  private static void obeyedIsAnEvent() {
    MessengerBoard b = Check.boardOf("board 9 3;unit 2 0 3;");
    b.pass(1);
    b.send(0, 8, 0);
    Check.due("sending is none", () -> b.size(7), 0);
    Check.due("obeying is one", () -> b.pass(1), 1);
    Check.due("of its turn", () -> Check.eventOf(b, 0), "1 0 1");
    Check.due("but no end", () -> b.order(0, 6), -1);
  }

  /** Forty orders that are obeyed and end make the greatest number of events, eighty. */
  private static void eventsInOrder() {
    MessengerBoard b = Check.boardOf("board 3 3;unit 0 0 1;");
    for (int i = 0; i < 40; i++) {
      b.send(0, 0, 0);
    }
    Check.due("events", () -> b.pass(1), 80);
    Check.due("kept", () -> b.size(7), 80);
    Check.row("event", event -> Check.eventOf(b, event), "0 0 1", "0 0 6", "0 1 1", "0 1 6", "0 2 1");
    Check.due("event 78", () -> Check.eventOf(b, 78), "0 39 1");
    Check.due("event 79", () -> Check.eventOf(b, 79), "0 39 2");
    Check.noSuch("event 80", () -> b.event(80, 0));
  }

  private static void replacedFirst() {
    MessengerBoard b = Check.boardOf("board 9 3;unit 2 0 3;");
    b.pass(1);
    b.send(0, 8, 0);
    b.pass(1);
    b.send(0, 8, 2);
    b.pass(1);
    Check.row("event", event -> Check.eventOf(b, event), "1 0 1", "2 0 6", "2 1 1");
  }
}
