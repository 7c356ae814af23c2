/** A test of its own for each sentence of "Operations" and of promises 25 to 36 that names a boundary. */
public final class OperationSentencesTest {
  private static final int[] ODD = {-1, -12, 1000, Integer.MIN_VALUE, Integer.MAX_VALUE, 715827883, 1 << 30};

  private interface Step {
    void on(MessengerBoard board);
  }

  private OperationSentencesTest() {
  }

  public static void main(String[] args) {
    allOperations();
    passAndSend();
    wall();
    movesAndPatience();
    formats();
    undoAndSnapshot();
    Check.end();
  }

  private static void allOperations() {
    Check.sentence("Every successful call of an operation is recorded, even if it changes nothing.",
        OperationSentencesTest::recorded);
    Check.sentence("A call that returns a negative error code or throws an exception changes nothing",
        OperationSentencesTest::failedCalls);
    Check.sentence("the exceptions are checked before the error codes", OperationSentencesTest::exceptionsFirst);
    Check.sentence("and these in the order in which they are listed", OperationSentencesTest::codesInOrder);
    Check.sentence("The 10 most recent operations can be undone, the most recent one first.", OperationSentencesTest::tenUndone);
    Check.sentence("Undoing restores everything that the operation changed", OperationSentencesTest::undoneWhole);
    Check.sentence("but not the buffer, the error position and the text of format", OperationSentencesTest::notUndone);
    Check.sentence("NONE = -1: There is no such value.", OperationSentencesTest::none);
    Check.sentence("HIDDEN = -1000000000: Error results of query start here.", OperationSentencesTest::hidden);
  }

  private static void passAndSend() {
    Check.sentence("pass: turns: 1 to 60", OperationSentencesTest::passedTurns);
    Check.sentence("Returns the number of events in them", OperationSentencesTest::passedEvents);
    Check.sentence("pass: -2 if the present turn would exceed 500", OperationSentencesTest::beyondTheLastTurn);
    Check.sentence("pass: if turns is out of range", OperationSentencesTest::passRange);
    Check.sentence("Operation: an order is sent on the present turn.", OperationSentencesTest::sentNow);
    Check.sentence("Returns its number; -3 if there are 40 orders.", OperationSentencesTest::sentNumbers);
    Check.sentence("send: if there is no such unit or cell (checked first)", OperationSentencesTest::sendUnitAndCell);
    Check.sentence("send: if the cell is a wall", OperationSentencesTest::sendWall);
  }

  private static void wall() {
    Check.sentence("a free cell becomes a wall, or a wall becomes free", OperationSentencesTest::wallAndFree);
    Check.sentence("Returns the number of walls then", OperationSentencesTest::wallNumbers);
    Check.sentence("-2 if the headquarters, a unit or a messenger on its way is in it", OperationSentencesTest::wallTaken);
    Check.sentence("-3 if an order on its way or obeyed", OperationSentencesTest::wallOnGoal);
    Check.sentence("or an order of the plan for the present turn or a later one has its goal in it",
        OperationSentencesTest::wallOnPlan);
    Check.sentence("wall: if there is no such cell", OperationSentencesTest::wallRange);
  }

  private static void movesAndPatience() {
    Check.sentence("Operation: a picket is moved to a cell.", OperationSentencesTest::pickedCells);
    Check.sentence("Returns 1 if this cell is watched by it on the present turn, otherwise 0.",
        OperationSentencesTest::movedPicketWatches);
    Check.sentence("if there is no such picket or cell", OperationSentencesTest::movePicketRange);
    Check.sentence("an order of the plan gets another turn; its place in the plan stays", OperationSentencesTest::movedPlans);
    Check.sentence("Returns its turn before; -2 if this is less than the present turn.", OperationSentencesTest::pastPlans);
    Check.sentence("movePlan: if there is no such one (checked first)", OperationSentencesTest::movePlanFirst);
    Check.sentence("movePlan: if turn is not the present one to 499", OperationSentencesTest::movePlanRange);
    Check.sentence("Operation: sets the patience. Returns the patience before.", OperationSentencesTest::patience);
    Check.sentence("if patience is not 1 to 30", OperationSentencesTest::patienceRange);
  }

  private static void formats() {
    Check.sentence("for each cell, from the left, the digit of the lowest unit in it", OperationSentencesTest::unitDigits);
    Check.sentence("otherwise 'm' if a messenger on its way is in it", OperationSentencesTest::messengerSigns);
    Check.sentence("otherwise 'h' for the headquarters", OperationSentencesTest::headquartersSign);
    Check.sentence("otherwise '!' if it is watched on the present turn (also a wall)", OperationSentencesTest::watchedSigns);
    Check.sentence("otherwise '#' for a wall and '.' for a free cell", OperationSentencesTest::wallSigns);
    Check.sentence("Returns the number of bytes of the text.", OperationSentencesTest::formattedLengths);
    Check.sentence("if there is no such row", OperationSentencesTest::formatRange);
    Check.sentence("the text of the most recent call of format, as it was then (also behind load, undo and "
        + "restoreSnapshot)", OperationSentencesTest::textAsItWas);
    Check.sentence("NONE if index is out of range or there was no such call", OperationSentencesTest::formattedRange);
  }

  private static void undoAndSnapshot() {
    Check.sentence("Returns the number of operations that can be undone.", OperationSentencesTest::undoCounts);
    Check.sentence("Returns the number of operations that can still be undone; NONE if there was nothing to undo.",
        OperationSentencesTest::undoAnswers);
    Check.sentence("Saves a snapshot of everything that undoing restores.", OperationSentencesTest::savedWhole);
    Check.sentence("It replaces an earlier snapshot.", OperationSentencesTest::savedAgain);
    Check.sentence("Restores the snapshot and clears the undo history.", OperationSentencesTest::restored);
    Check.sentence("The snapshot is kept.", OperationSentencesTest::keptSnapshot);
    Check.sentence("Returns true; false if there is no snapshot (nothing changes).", OperationSentencesTest::noSnapshot);
  }

  private static MessengerBoard busy() {
    MessengerBoard b = Check.boardOf("board 9 4;unit 8 0 1;unit 3 3 2;picket 6 2 1 3 0 1;plan 0 0 3 2;plan 1 8 3 9;"
        + "wall 8 2;patience 12;");
    b.send(0, 4, 0);
    b.send(1, 0, 3);
    b.pass(2);
    return b;
  }

  /** The operations, each of which changes something on the busy board. */
  private static final Step[] OPERATIONS = {b -> b.pass(7), b -> b.send(1, 7, 3), b -> b.wall(1, 1), b -> b.wall(8, 2),
      b -> b.movePicket(0, 2, 1), b -> b.movePlan(1, 12), b -> b.setPatience(1), b -> b.pass(60)};

  private static String pictureAfter(Step... steps) {
    return Picture.of(() -> {
      MessengerBoard b = busy();
      for (Step step : steps) {
        step.on(b);
      }
      return b;
    });
  }

  private static void recorded() {
    MessengerBoard b = busy();
    Check.due("before", b::undoCount, 3);
    b.movePicket(0, 6, 2);
    Check.due("a picket to its own cell", b::undoCount, 4);
    b.movePlan(1, 9);
    Check.due("a plan to its own turn", b::undoCount, 5);
    b.setPatience(12);
    Check.due("the same patience", b::undoCount, 6);
    b.pass(1);
    Check.due("a turn", b::undoCount, 7);
    b.send(1, 0, 3);
    Check.due("an order", b::undoCount, 8);
    b.wall(2, 2);
    Check.due("a wall", b::undoCount, 9);
    Check.due("undone one by one", b::undo, 8);
    MessengerBoard empty = new MessengerBoard();
    empty.pass(1);
    Check.due("a turn without any event", empty::undoCount, 1);
    for (int i = 0; i < 3; i++) {
      empty.size(0);
      empty.format(0);
      empty.saveSnapshot();
      Check.feed(empty, "many x=x");
      empty.query(8);
    }
    Check.due("nothing else is an operation", empty::undoCount, 1);
  }

  private static void failedCalls() {
    String before = pictureAfter();
    Step[] calls = {b -> b.pass(0), b -> b.pass(61), b -> b.send(2, 0, 0), b -> b.send(0, 9, 0), b -> b.send(0, 8, 2),
        b -> b.wall(0, 0), b -> b.wall(8, 0), b -> b.wall(4, 0), b -> b.wall(9, 9), b -> b.movePicket(1, 0, 0),
        b -> b.movePicket(0, 9, 0), b -> b.movePlan(0, 1), b -> b.movePlan(2, 5), b -> b.movePlan(1, 500),
        b -> b.setPatience(0), b -> b.setPatience(31), b -> b.format(4), b -> b.load(1), b -> b.query(1)};
    for (int i = 0; i < calls.length; i++) {
      Step call = calls[i];
      Check.due("call " + i, () -> pictureAfter(b -> Check.answerOf(() -> {
        call.on(b);
        return "";
      })).equals(before), true);
      MessengerBoard b = busy();
      Check.answerOf(() -> {
        call.on(b);
        return "";
      });
      Check.due("call " + i + " is not recorded", b::undoCount, 3);
    }
    MessengerBoard full = Check.boardOf("board 3 3;unit 2 2 1;plan 0 1 1 3;");
    for (int i = 0; i < 40; i++) {
      full.send(0, 0, 0);
    }
    full.pass(60);
    full.setPatience(30);
    Check.due("the 41st order", () -> full.send(0, 0, 0), -3);
    Check.due("the past plan", () -> full.movePlan(0, 99), -2);
    full.undo();
    Check.due("none of them was recorded", () -> full.size(5), 60);
    full.undo();
    Check.due("nor these", () -> full.size(5), 0);
    Check.due("orders", () -> full.size(4), 40);
  }

  private static void exceptionsFirst() {
    MessengerBoard b = Check.boardOf("board 3 3;unit 2 2 1;wall 1 1;plan 0 2 1 3;");
    for (int i = 0; i < 40; i++) {
      b.send(0, 0, 0);
    }
    Check.due("send with 40 orders", () -> b.send(0, 0, 0), -3);
    Check.illegal("to a wall", () -> b.send(0, 1, 1));
    Check.noSuch("to no cell", () -> b.send(0, 3, 0));
    Check.noSuch("to no unit", () -> b.send(1, 0, 0));
    for (int i = 0; i < 8; i++) {
      b.pass(60);
    }
    Check.due("pass beyond the last turn", () -> b.pass(60), -2);
    Check.illegal("pass 61", () -> b.pass(61));
    Check.illegal("pass 0", () -> b.pass(0));
    Check.due("movePlan of a past one", () -> b.movePlan(0, 499), -2);
    Check.illegal("movePlan of a past one to a past turn", () -> b.movePlan(0, 479));
    Check.illegal("movePlan of a past one to turn 500", () -> b.movePlan(0, 500));
    Check.noSuch("movePlan of none", () -> b.movePlan(1, 499));
  }

  private static void codesInOrder() {
    MessengerBoard b = Check.boardOf("board 9 3;unit 4 0 1;unit 8 2 1;plan 1 8 2 9;plan 1 0 0 9;");
    b.send(1, 4, 0);
    Check.due("a unit and the goal of an order", () -> b.wall(4, 0), -2);
    Check.due("a unit and the goal of a plan", () -> b.wall(8, 2), -2);
    Check.due("the headquarters and the goal of a plan", () -> b.wall(0, 0), -2);
    b.send(1, 2, 0);
    Check.due("a goal", () -> b.wall(2, 0), -3);
    b.pass(1);
    Check.due("a messenger and a goal", () -> b.wall(2, 0), -2);
  }

  private static void tenUndone() {
    for (int operations : new int[] {0, 1, 9, 10, 11, 12, 20, 21, 37}) {
      MessengerBoard b = Check.boardOf("board 3 3;");
      for (int i = 0; i < operations; i++) {
        b.wall(1 + i % 2, 1);
        b.undo();
        b.pass(1 + i % 3);
      }
      int turn = b.size(5);
      int can = Math.min(10, operations);
      Check.due("operations " + operations, b::undoCount, can);
      for (int i = 1; i <= can; i++) {
        int left = can - i;
        Check.due("undo of " + operations, b::undo, left);
        turn -= 1 + (operations - i) % 3;
        int then = turn;
        Check.due("the turn then", () -> b.size(5), then);
      }
      Check.due("the eleventh of " + operations, b::undo, -1);
      int then = turn;
      Check.due("changes nothing", () -> b.size(5), then);
    }
  }

  private static void undoneWhole() {
    String before = pictureAfter();
    for (int i = 0; i < OPERATIONS.length; i++) {
      Step operation = OPERATIONS[i];
      Check.due("operation " + i + " changes something", () -> pictureAfter(operation).equals(before), false);
      Check.due("operation " + i + " is undone", () -> pictureAfter(operation, MessengerBoard::undo).equals(before), true);
    }
    Step all = b -> {
      for (Step operation : OPERATIONS) {
        operation.on(b);
      }
    };
    Step back = b -> {
      for (int i = 0; i < OPERATIONS.length; i++) {
        b.undo();
      }
    };
    Check.due("all of them", () -> pictureAfter(all, back).equals(before), true);
    Check.due("and done once more", () -> pictureAfter(all, back, all).equals(pictureAfter(all)), true);
    MessengerBoard b = Check.boardOf("board 5 3;unit 4 0 1;");
    b.distance(0, 0, 4, 0);
    b.wall(2, 0);
    Check.due("a way round", () -> b.distance(0, 0, 4, 0), 6);
    b.undo();
    Check.due("the straight way", () -> b.distance(0, 0, 4, 0), 4);
    Check.due("its step", () -> b.step(1, 0, 4, 0), 2);
  }

  private static void notUndone() {
    MessengerBoard b = Check.boardOf("board 5 3;unit 4 0 1;");
    b.setPatience(9);
    b.format(0);
    Check.query(b, "many z");
    Check.feed(b, "board 4 4;");
    b.undo();
    Check.due("the error position", b::errorPosition, 5);
    Check.due("the text of format", () -> (char) b.formattedByte(4), '0');
    Check.due("the buffer", () -> b.load(10), 0);
    Check.due("as it was fed", () -> b.size(0), 4);
    b.setPatience(9);
    Check.feed(b, "board 6 6;");
    b.load(5);
    b.undo();
    Check.illegal("an emptied buffer", () -> b.load(1));
    Check.due("another error position", b::errorPosition, 5);
  }

  private static void none() {
    Check.due("NONE", () -> MessengerBoard.NONE, -1);
    Check.due("undo of nothing", () -> new MessengerBoard().undo(), MessengerBoard.NONE);
  }

  private static void hidden() {
    Check.due("HIDDEN", () -> MessengerBoard.HIDDEN, -1000000000);
    Check.due("error 1", () -> new MessengerBoard().query(0), MessengerBoard.HIDDEN - 1);
  }

  private static void passedTurns() {
    MessengerBoard b = new MessengerBoard();
    Check.due("1", () -> b.pass(1), 0);
    Check.due("the turn", () -> b.size(5), 1);
    Check.due("60", () -> b.pass(60), 0);
    Check.due("the turn then", () -> b.size(5), 61);
    b.undo();
    Check.due("undone at once", () -> b.size(5), 1);
  }

  private static void passedEvents() {
    MessengerBoard b = Check.boardOf("board 9 3;unit 2 0 1;patience 3;unit 8 2 1;plan 0 8 1 2;");
    b.send(0, 3, 0);
    b.send(1, 3, 0);
    Check.due("obeyed and done", () -> b.pass(1), 2);
    Check.due("none", () -> b.pass(1), 0);
    Check.due("lost, and the planned one obeyed and done", () -> b.pass(60), 3);
    Check.due("in all", () -> b.size(7), 5);
    MessengerBoard full = Check.boardOf("board 3 3;unit 0 0 1;");
    for (int i = 0; i < 40; i++) {
      full.send(0, 0, 0);
    }
    Check.due("eighty at once", () -> full.pass(60), 80);
  }

  private static MessengerBoard onTurn(int turn) {
    MessengerBoard b = Check.boardOf("board 3 3;unit 2 2 1;plan 0 1 1 499;plan 0 2 2 3;");
    for (int left = turn; left > 0; left -= 60) {
      b.pass(Math.min(60, left));
    }
    return b;
  }

  private static void beyondTheLastTurn() {
    MessengerBoard b = onTurn(440);
    Check.due("to turn 500 at once", () -> b.pass(60), 0);
    Check.due("turn 500", () -> b.size(5), 500);
    Check.due("turn 501", () -> b.pass(1), -2);
    Check.due("60 more", () -> b.pass(60), -2);
    Check.due("still turn 500", () -> b.size(5), 500);
    MessengerBoard one = onTurn(441);
    Check.due("one too many", () -> one.pass(60), -2);
    Check.due("still turn 441", () -> one.size(5), 441);
    Check.due("just enough", () -> one.pass(59), 0);
    one.undo();
    Check.due("what was undone can pass again", () -> one.pass(59), 0);
    Check.due("the plan for turn 499 was sent", () -> one.size(4), 2);
  }

  private static void passRange() {
    MessengerBoard b = new MessengerBoard();
    Check.illegal("0", () -> b.pass(0));
    Check.illegal("61", () -> b.pass(61));
    for (int odd : ODD) {
      Check.illegal("turns " + odd, () -> b.pass(odd));
    }
    Check.due("no turn passed", () -> b.size(5), 0);
  }

  private static void sentNow() {
    MessengerBoard b = onTurn(5);
    b.send(0, 1, 2);
    Check.due("its turn", () -> b.order(1, 4), 5);
    Check.due("no step yet", () -> b.order(1, 9), 0);
    b.pass(1);
    Check.due("a step on the same turn", () -> b.order(1, 9), 2);
    MessengerBoard last = onTurn(500);
    last.send(0, 1, 2);
    Check.due("on turn 500, too", () -> last.order(2, 4), 500);
  }

  private static void sentNumbers() {
    MessengerBoard b = Check.boardOf("board 3 3;unit 2 2 1;plan 0 1 1 0;");
    Check.row("send", i -> b.send(0, 0, 0), 0, 1, 2);
    b.pass(1);
    Check.due("the plan takes a number, too", () -> b.send(0, 0, 0), 4);
    for (int i = 5; i < 40; i++) {
      int number = i;
      Check.due("send " + i, () -> b.send(0, 0, 0), number);
    }
    Check.due("the 41st", () -> b.send(0, 0, 0), -3);
    b.pass(40);
    Check.due("also when they have ended", () -> b.send(0, 0, 0), -3);
    b.undo();
    b.undo();
    Check.due("an undone number is free again", () -> b.send(0, 0, 0), 39);
  }

  private static void sendUnitAndCell() {
    MessengerBoard b = Check.boardOf("board 4 3;unit 2 2 1;wall 1 1;");
    Check.due("the last cell", () -> b.send(0, 3, 2), 0);
    int[][] none = {{1, 0, 0}, {-1, 0, 0}, {0, 4, 0}, {0, 0, 3}, {0, -1, 0}, {0, 0, -1}, {1, 1, 1}, {6, 0, 0},
        {0, 12, -1}, {0, 357913942, 357913942}};
    for (int[] n : none) {
      Check.noSuch("send " + n[0] + " " + n[1] + " " + n[2], () -> b.send(n[0], n[1], n[2]));
    }
    for (int odd : ODD) {
      Check.noSuch("unit " + odd, () -> b.send(odd, 0, 0));
      Check.noSuch("x " + odd, () -> b.send(0, odd, 0));
      Check.noSuch("y " + odd, () -> b.send(0, 0, odd));
    }
    Check.noSuch("a board without units", () -> new MessengerBoard().send(0, 1, 1));
  }

  private static void sendWall() {
    MessengerBoard b = Check.boardOf("board 4 3;unit 2 2 1;wall 1 1;");
    Check.illegal("a wall", () -> b.send(0, 1, 1));
    b.wall(1, 1);
    Check.due("no wall any more", () -> b.send(0, 1, 1), 0);
    Check.due("the headquarters", () -> b.send(0, 0, 0), 1);
    Check.due("the unit's own cell", () -> b.send(0, 2, 2), 2);
  }

  private static void wallAndFree() {
    MessengerBoard b = Check.boardOf("board 12 12;wall 11 11;");
    b.wall(11, 10);
    Check.due("a wall", () -> b.isWall(11, 10), true);
    Check.due("no way through it", () -> b.distance(11, 9, 11, 10), -1);
    b.wall(11, 10);
    Check.due("free", () -> b.isWall(11, 10), false);
    Check.due("a way again", () -> b.distance(11, 9, 11, 10), 1);
    b.wall(11, 11);
    Check.due("a wall of the text is free", () -> b.isWall(11, 11), false);
    Check.due("with a way", () -> b.distance(0, 0, 11, 11), 22);
    b.wall(0, 11);
    Check.due("one cell and no other", () -> b.isWall(11, 0), false);
  }

  private static void wallNumbers() {
    MessengerBoard b = Check.boardOf("board 3 3;wall 1 1;");
    Check.due("two", () -> b.wall(1, 2), 2);
    Check.due("one", () -> b.wall(1, 1), 1);
    Check.due("none", () -> b.wall(1, 2), 0);
    int walls = 0;
    for (int cell = 1; cell < 9; cell++) {
      int x = cell % 3;
      int y = cell / 3;
      walls++;
      int due = walls;
      Check.due("cell " + cell, () -> b.wall(x, y), due);
    }
    Check.due("size", () -> b.size(6), 8);
  }

  private static void wallTaken() {
    MessengerBoard b = Check.boardOf("board 9 3;headquarters 1 0;unit 8 0 1;unit 4 2 1;picket 7 2 0 1 0 0;");
    Check.due("the headquarters", () -> b.wall(1, 0), -2);
    Check.due("unit 0", () -> b.wall(8, 0), -2);
    Check.due("unit 1", () -> b.wall(4, 2), -2);
    Check.due("a picket does not matter", () -> b.wall(7, 2), 1);
    b.send(0, 8, 1);
    b.pass(1);
    Check.due("a messenger", () -> b.wall(3, 0), -2);
    Check.due("where it was", () -> b.wall(2, 0), 2);
    b.setPatience(1);
    b.pass(1);
    Check.due("where it is lost", () -> b.order(0, 7), 5);
    Check.due("nobody is any more", () -> b.wall(5, 0), 3);
  }

  private static void wallOnGoal() {
    MessengerBoard b = Check.boardOf("board 9 3;unit 2 0 3;unit 8 2 1;picket 0 2 0 1 0 0;unit 0 1 1;");
    b.pass(1);
    b.send(0, 7, 0);
    Check.due("on its way", () -> b.wall(7, 0), -3);
    b.pass(1);
    Check.due("obeyed", () -> b.wall(7, 0), -3);
    b.send(0, 6, 0);
    b.pass(1);
    Check.due("replaced", () -> b.wall(7, 0), 1);
    b.undo();
    b.send(0, 2, 0);
    b.pass(1);
    b.send(0, 4, 1);
    b.pass(10);
    Check.due("done, and the unit is gone", () -> b.order(2, 3), 2);
    Check.due("so that its goal is free", () -> b.wall(2, 0), 1);
    b.setPatience(1);
    b.send(1, 8, 0);
    b.pass(2);
    Check.due("lost", () -> b.wall(8, 0), 2);
    b.movePicket(0, 0, 1);
    b.send(2, 5, 2);
    b.pass(1);
    Check.due("intercepted", () -> b.wall(5, 2), 3);
    MessengerBoard late = TermsSentencesTest.overtaken(3, 4, 0);
    Check.due("on its way when it is overtaken", () -> late.wall(0, 2), -3);
    late.wall(3, 0);
    late.pass(1);
    Check.due("late", () -> late.wall(0, 2), 3);
  }

  private static void wallOnPlan() {
    MessengerBoard b = Check.boardOf("board 9 3;unit 2 0 1;plan 0 5 2 1;plan 0 6 2 4;picket 0 0 3 1 0 0;");
    Check.due("a later turn", () -> b.wall(5, 2), -3);
    b.pass(1);
    Check.due("the present turn", () -> b.wall(5, 2), -3);
    b.pass(1);
    Check.due("an earlier turn", () -> b.wall(5, 2), 1);
    Check.due("a later one still", () -> b.wall(6, 2), -3);
    b.movePlan(1, 499);
    b.pass(60);
    Check.due("moved to another turn", () -> b.wall(6, 2), -3);
    MessengerBoard told = Check.boardOf("board 9 3;unit 2 0 1;plan 0 5 2 1;wall 5 2;");
    Check.due("a wall that a text has put there", () -> told.wall(5, 2), -3);
    Check.due("stays", () -> told.isWall(5, 2), true);
  }

  private static void wallRange() {
    MessengerBoard b = Check.boardOf("board 4 3;");
    Check.due("the last cell", () -> b.wall(3, 2), 1);
    Check.noSuch("column 4", () -> b.wall(4, 0));
    Check.noSuch("row 3", () -> b.wall(0, 3));
    for (int odd : ODD) {
      Check.noSuch("column " + odd, () -> b.wall(odd, 1));
      Check.noSuch("row " + odd, () -> b.wall(1, odd));
    }
    Check.due("walls", () -> b.size(6), 1);
  }

  private static void pickedCells() {
    MessengerBoard b = Check.boardOf("board 12 12;picket 5 5 1 1 0 0;picket 5 5 0 1 0 0;wall 11 11;");
    b.movePicket(0, 11, 11);
    Check.row("picket 0", what -> b.picket(0, what), 11, 11, 1, 1, 0, 0);
    Check.due("watches where it is", () -> b.isWatched(10, 10, 0), true);
    Check.due("the other one stays", () -> b.isWatched(5, 5, 0), true);
    Check.due("but not the first one", () -> b.isWatched(4, 4, 0), false);
    b.movePicket(1, 0, 0);
    Check.due("picket 1", () -> b.isWatched(0, 0, 0), true);
    Check.due("nobody any more", () -> b.isWatched(5, 5, 0), false);
  }

  private static void movedPicketWatches() {
    MessengerBoard b = Check.boardOf("board 9 3;picket 5 1 0 3 1 1;picket 5 1 3 2 0 0;");
    Check.due("picket 0 on turn 0", () -> b.movePicket(0, 4, 2), 0);
    Check.due("picket 1 on turn 0", () -> b.movePicket(1, 4, 2), 1);
    b.pass(1);
    Check.due("picket 0 on turn 1", () -> b.movePicket(0, 0, 2), 1);
    Check.due("picket 1 on turn 1, in the range of the other one", () -> b.movePicket(1, 0, 2), 0);
    b.pass(3);
    Check.due("picket 0 on turn 4", () -> b.movePicket(0, 8, 2), 1);
    Check.due("picket 1 on turn 4", () -> b.movePicket(1, 8, 2), 1);
  }

  private static void movePicketRange() {
    MessengerBoard b = Check.boardOf("board 4 3;picket 1 1 0 1 0 0;");
    Check.due("the last cell", () -> b.movePicket(0, 3, 2), 1);
    Check.noSuch("picket 1", () -> b.movePicket(1, 0, 0));
    Check.noSuch("column 4", () -> b.movePicket(0, 4, 0));
    Check.noSuch("row 3", () -> b.movePicket(0, 0, 3));
    for (int odd : ODD) {
      Check.noSuch("picket " + odd, () -> b.movePicket(odd, 0, 0));
      Check.noSuch("column " + odd, () -> b.movePicket(0, odd, 0));
      Check.noSuch("row " + odd, () -> b.movePicket(0, 0, odd));
    }
    Check.noSuch("a board without pickets", () -> new MessengerBoard().movePicket(0, 0, 0));
  }

  private static void movedPlans() {
    MessengerBoard b = Check.boardOf("board 9 3;unit 8 2 1;plan 0 1 0 7;plan 0 2 0 3;plan 0 3 0 0;");
    b.movePlan(0, 3);
    b.movePlan(2, 3);
    Check.row("turn of plan", plan -> b.plan(plan, 3), 3, 3, 3);
    b.pass(4);
    Check.row("x of the goal of order", order -> b.order(order, 1), 1, 2, 3);
    Check.due("sent once", () -> b.size(4), 3);
  }

  private static void pastPlans() {
    MessengerBoard b = onTurn(3);
    Check.due("of the present turn", () -> b.movePlan(1, 3), 3);
    Check.due("to a later one", () -> b.movePlan(1, 9), 3);
    Check.due("and back", () -> b.movePlan(1, 3), 9);
    b.pass(1);
    Check.due("of an earlier turn", () -> b.movePlan(1, 4), -2);
    Check.due("its turn stays", () -> b.plan(1, 3), 3);
    b.undo();
    Check.due("of the present turn again", () -> b.movePlan(1, 4), 3);
    Check.due("from turn 499", () -> b.movePlan(0, 400), 499);
  }

  private static void movePlanFirst() {
    MessengerBoard b = onTurn(10);
    Check.noSuch("plan 2", () -> b.movePlan(2, 20));
    Check.noSuch("plan 2 to a past turn", () -> b.movePlan(2, 9));
    Check.noSuch("plan -1 to turn 500", () -> b.movePlan(-1, 500));
    for (int odd : ODD) {
      Check.noSuch("plan " + odd, () -> b.movePlan(odd, 20));
    }
    Check.noSuch("a board without plans", () -> new MessengerBoard().movePlan(0, 5));
  }

  private static void movePlanRange() {
    MessengerBoard b = onTurn(10);
    Check.due("499", () -> b.movePlan(0, 499), 499);
    Check.due("the present one", () -> b.movePlan(0, 10), 499);
    Check.illegal("the one before", () -> b.movePlan(0, 9));
    Check.illegal("500", () -> b.movePlan(0, 500));
    for (int odd : ODD) {
      Check.illegal("turn " + odd, () -> b.movePlan(0, odd));
    }
    Check.due("its turn", () -> b.plan(0, 3), 10);
    MessengerBoard first = onTurn(0);
    Check.due("turn 0", () -> first.movePlan(0, 0), 499);
    MessengerBoard last = onTurn(500);
    Check.illegal("no turn is left on turn 500", () -> last.movePlan(0, 500));
    Check.illegal("nor turn 499", () -> last.movePlan(0, 499));
  }

  private static void patience() {
    MessengerBoard b = Check.boardOf("board 5 3;wall 1 0;wall 0 1;unit 4 0 1;");
    Check.due("30 before", () -> b.setPatience(1), 30);
    Check.due("1 before", () -> b.setPatience(30), 1);
    b.send(0, 3, 0);
    b.pass(9);
    Check.due("30 then", () -> b.setPatience(9), 30);
    Check.due("it counts at once", () -> b.pass(1), 1);
    Check.due("size", () -> b.size(9), 9);
  }

  private static void patienceRange() {
    MessengerBoard b = new MessengerBoard();
    Check.due("1", () -> b.setPatience(1), 30);
    Check.due("30", () -> b.setPatience(30), 1);
    Check.illegal("0", () -> b.setPatience(0));
    Check.illegal("31", () -> b.setPatience(31));
    for (int odd : ODD) {
      Check.illegal("patience " + odd, () -> b.setPatience(odd));
    }
    Check.due("the patience stays", () -> b.size(9), 30);
  }

  private static void formatted(MessengerBoard b, int y, String want) {
    Check.due("row " + y, () -> Check.rowOf(b, y), want);
  }

  private static void unitDigits() {
    MessengerBoard b = Check.boardOf("board 8 3;unit 7 0 1;unit 2 1 1;unit 2 1 1;unit 0 0 1;unit 4 2 1;unit 5 2 1;"
        + "picket 2 1 0 1 0 0;");
    formatted(b, 0, "3......0");
    formatted(b, 1, "..1.....");
    formatted(b, 2, "....45..");
    b.send(3, 0, 0);
    formatted(b, 0, "3......0");
  }

  private static void messengerSigns() {
    MessengerBoard b = Check.boardOf("board 8 3;unit 7 0 1;picket 2 0 0 20 1 1;picket 4 0 0 20 2 2;");
    b.send(0, 7, 2);
    b.send(0, 7, 2);
    formatted(b, 0, "m......0");
    b.pass(1);
    formatted(b, 0, "h.m....0");
    b.setPatience(1);
    b.pass(1);
    Check.due("both are lost", () -> b.orders(4), 2);
    formatted(b, 0, "h...!..0");
  }

  private static void headquartersSign() {
    MessengerBoard b = Check.boardOf("board 4 3;headquarters 3 2;picket 3 2 1 1 0 0;");
    formatted(b, 2, "..!h");
    formatted(b, 0, "....");
  }

  private static void watchedSigns() {
    MessengerBoard b = Check.boardOf("board 5 3;wall 2 1;wall 4 1;picket 2 1 1 2 0 0;");
    formatted(b, 1, ".!!!#");
    b.pass(1);
    formatted(b, 1, "..#.#");
  }

  private static void wallSigns() {
    MessengerBoard b = Check.boardOf("board 12 12;wall 11 11;wall 0 11;wall 11 0;");
    formatted(b, 0, "h..........#");
    formatted(b, 5, "............");
    formatted(b, 11, "#..........#");
    b.wall(11, 11);
    formatted(b, 11, "#...........");
  }

  private static void formattedLengths() {
    for (int width = 3; width <= 12; width++) {
      int bytes = width;
      MessengerBoard b = Check.boardOf("board " + width + " 3;");
      Check.due("width " + width, () -> b.format(2), bytes);
      Check.due("the last byte", () -> b.formattedByte(bytes - 1), (int) '.');
      Check.due("none behind it", () -> b.formattedByte(bytes), -1);
    }
  }

  private static void formatRange() {
    MessengerBoard b = Check.boardOf("board 4 3;");
    Check.due("row 0", () -> b.format(0), 4);
    Check.due("row 2", () -> b.format(2), 4);
    Check.noSuch("row 3", () -> b.format(3));
    Check.noSuch("row 11", () -> b.format(11));
    for (int odd : ODD) {
      Check.noSuch("row " + odd, () -> b.format(odd));
    }
  }

  private static void told(MessengerBoard b, String when, String want) {
    Check.row(when + ": byte", index -> (char) b.formattedByte(index), want.charAt(0), want.charAt(1), want.charAt(2),
        want.charAt(3));
    Check.due(when + ": byte 4", () -> b.formattedByte(4), -1);
  }

  private static void textAsItWas() {
    MessengerBoard b = Check.boardOf("board 4 3;unit 3 0 1;");
    b.saveSnapshot();
    b.wall(1, 0);
    b.format(0);
    told(b, "at first", "h#.0");
    b.wall(1, 0);
    b.send(0, 3, 2);
    told(b, "behind other operations", "h#.0");
    b.undo();
    told(b, "behind undo", "h#.0");
    b.restoreSnapshot();
    told(b, "behind restoreSnapshot", "h#.0");
    Check.load(b, "board 12 12;");
    told(b, "behind load", "h#.0");
    Check.load(b, "oops");
    told(b, "behind a load with an error", "h#.0");
    Check.noSuch("a row that is none", () -> b.format(12));
    told(b, "behind a call that throws", "h#.0");
    Check.load(b, "board 3 3;headquarters 2 2;");
    b.format(2);
    Check.row("another row: byte", b::formattedByte, (int) '.', (int) '.', (int) 'h', -1);
  }

  private static void formattedRange() {
    MessengerBoard b = Check.boardOf("board 12 3;");
    Check.due("no call", () -> b.formattedByte(0), -1);
    Check.noSuch("a call that throws", () -> b.format(3));
    Check.due("no call that told a text", () -> b.formattedByte(0), -1);
    b.format(1);
    Check.due("the first byte", () -> b.formattedByte(0), (int) '.');
    Check.due("the last byte", () -> b.formattedByte(11), (int) '.');
    Check.due("12", () -> b.formattedByte(12), -1);
    for (int odd : ODD) {
      Check.due("index " + odd, () -> b.formattedByte(odd), -1);
    }
  }

  private static void undoCounts() {
    MessengerBoard b = new MessengerBoard();
    Check.due("none at first", b::undoCount, 0);
    for (int i = 1; i <= 12; i++) {
      int count = Math.min(i, 10);
      b.setPatience(i);
      Check.due("after " + i, b::undoCount, count);
    }
    b.undo();
    Check.due("after an undo", b::undoCount, 9);
    b.setPatience(20);
    Check.due("after one more operation", b::undoCount, 10);
  }

  private static void undoAnswers() {
    MessengerBoard b = new MessengerBoard();
    Check.due("nothing to undo", b::undo, -1);
    b.pass(1);
    b.pass(1);
    Check.due("one left", b::undo, 1);
    Check.due("none left", b::undo, 0);
    Check.due("nothing left", b::undo, -1);
    Check.due("and again", b::undo, -1);
    Check.due("the turn", () -> b.size(5), 0);
    Check.due("undoing is no operation", b::undoCount, 0);
  }

  private static void savedWhole() {
    String before = pictureAfter();
    for (int i = 0; i < OPERATIONS.length; i++) {
      Step operation = OPERATIONS[i];
      Check.due("operation " + i, () -> pictureAfter(MessengerBoard::saveSnapshot, operation,
          MessengerBoard::restoreSnapshot).equals(before), true);
    }
    Check.due("all of them", () -> pictureAfter(MessengerBoard::saveSnapshot, b -> {
      for (Step operation : OPERATIONS) {
        operation.on(b);
      }
    }, MessengerBoard::restoreSnapshot).equals(before), true);
    MessengerBoard b = Check.boardOf("board 9 3;unit 2 0 1;");
    b.send(0, 8, 0);
    b.pass(4);
    b.saveSnapshot();
    b.undo();
    b.send(0, 2, 2);
    b.pass(4);
    Check.due("another past", () -> b.wasAt(0, 2), 202);
    b.restoreSnapshot();
    Check.due("the saved past", () -> b.wasAt(0, 2), 4);
    MessengerBoard late = Check.boardOf("board 12 3;unit 2 0 1;");
    for (int i = 0; i < 8; i++) {
      late.pass(60);
    }
    late.send(0, 11, 0);
    late.pass(20);
    late.saveSnapshot();
    late.undo();
    late.undo();
    late.pass(20);
    Check.due("another past of the last turns", () -> late.wasAt(0, 499), 2);
    late.restoreSnapshot();
    Check.due("the saved past of them", () -> late.wasAt(0, 485), 7);
    Check.due("up to the last one", () -> late.wasAt(0, 499), 11);
  }

  private static void savedAgain() {
    MessengerBoard b = new MessengerBoard();
    b.saveSnapshot();
    b.setPatience(5);
    b.saveSnapshot();
    b.setPatience(6);
    Check.due("restored", b::restoreSnapshot, true);
    Check.due("the later one", () -> b.size(9), 5);
  }

  private static void restored() {
    MessengerBoard b = new MessengerBoard();
    b.setPatience(5);
    b.saveSnapshot();
    Check.due("saving keeps the undo history", b::undoCount, 1);
    b.setPatience(6);
    b.restoreSnapshot();
    Check.due("the patience", () -> b.size(9), 5);
    Check.due("no operation to undo", b::undoCount, 0);
    Check.due("nothing is undone", b::undo, -1);
    b.setPatience(7);
    Check.due("a new one can be undone", b::undo, 0);
    Check.due("to the restored one", () -> b.size(9), 5);
    b.wall(1, 0);
    Check.due("a way round a wall", () -> b.distance(0, 0, 2, 0), 4);
    b.restoreSnapshot();
    Check.due("walls are gone from the ways, too", () -> b.distance(0, 0, 2, 0), 2);
  }

  private static void keptSnapshot() {
    MessengerBoard b = new MessengerBoard();
    b.saveSnapshot();
    for (int i = 1; i <= 3; i++) {
      b.setPatience(i);
      b.pass(i);
      Check.due("time " + i, b::restoreSnapshot, true);
      Check.due("the patience", () -> b.size(9), 30);
      Check.due("the turn", () -> b.size(5), 0);
    }
    b.setPatience(3);
    b.undo();
    Check.due("behind undo, too", b::restoreSnapshot, true);
  }

  private static void noSnapshot() {
    MessengerBoard b = busy();
    Check.due("none", b::restoreSnapshot, false);
    Check.due("the undo history stays", b::undoCount, 3);
    Check.due("nothing changes", () -> pictureAfter(MessengerBoard::restoreSnapshot).equals(pictureAfter()), true);
    b.saveSnapshot();
    Check.due("one", b::restoreSnapshot, true);
    Check.load(b, "board 3 3;");
    Check.due("none behind load", b::restoreSnapshot, false);
    b.setPatience(4);
    Check.due("again none", b::restoreSnapshot, false);
    Check.due("the patience stays", () -> b.size(9), 4);
    Check.due("the operation stays", b::undoCount, 1);
  }
}
