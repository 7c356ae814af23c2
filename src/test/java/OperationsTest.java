/** Promises 25 to 36: operations, format, undo and the snapshot. */
public final class OperationsTest {
  private OperationsTest() {
  }

  public static void main(String[] args) {
    passing();
    sending();
    walling();
    movingPickets();
    movingPlans();
    patience();
    formatting();
    undoing();
    undoRestoresEverything();
    snapshots();
    snapshotAndPast();
    Check.end();
  }

  private static void passing() {
    MessengerBoard b = Check.boardOf("board 5 3;unit 4 0 1;");
    b.send(0, 0, 2);
    Check.due("pass(1) without an event", () -> b.pass(1), 0);
    Check.due("pass(1) with one", () -> b.pass(1), 1);
    Check.due("pass(60) with one", () -> b.pass(60), 1);
    Check.due("the turn", () -> b.size(5), 62);
    Check.illegal("pass(0)", () -> b.pass(0));
    Check.illegal("pass(-1)", () -> b.pass(-1));
    Check.illegal("pass(61)", () -> b.pass(61));
    for (int i = 0; i < 7; i++) {
      b.pass(60);
    }
    Check.due("turn 482", () -> b.size(5), 482);
    Check.due("beyond 500", () -> b.pass(19), -2);
    Check.due("nothing passed", () -> b.size(5), 482);
    Check.due("up to 500", () -> b.pass(18), 0);
    Check.due("no turn more", () -> b.pass(1), -2);
    Check.illegal("exceptions come first", () -> b.pass(61));
  }

  private static void sending() {
    MessengerBoard b = Check.boardOf("board 4 3;unit 3 0 1;wall 1 1;headquarters 0 2;");
    for (int i = 0; i < 40; i++) {
      int number = i;
      Check.due("send " + i, () -> b.send(0, 3, 0), number);
    }
    Check.due("the 41st", () -> b.send(0, 3, 0), -3);
    Check.due("is none", () -> b.size(4), 40);
    Check.due("messengers begin at the headquarters", () -> b.order(39, 7) + " " + b.order(39, 8), "0 2");
    Check.noSuch("no such unit, ahead of the wall", () -> b.send(1, 1, 1));
    Check.noSuch("no such unit -1", () -> b.send(-1, 0, 0));
    Check.noSuch("no such x", () -> b.send(0, 4, 0));
    Check.noSuch("no such y", () -> b.send(0, 0, 3));
    Check.illegal("a wall, ahead of the error codes", () -> b.send(0, 1, 1));
  }

  private static void walling() {
    MessengerBoard b = Check.boardOf("board 9 3;unit 8 0 1;unit 0 2 1;plan 0 8 2 2;plan 1 7 2 0;picket 5 1 0 1 0 0;");
    Check.due("a wall", () -> b.wall(5, 1), 1);
    Check.due("isWall", () -> b.isWall(5, 1), true);
    Check.due("another one", () -> b.wall(5, 2), 2);
    Check.due("free again", () -> b.wall(5, 1), 1);
    Check.due("is free", () -> b.isWall(5, 1), false);
    Check.due("the headquarters", () -> b.wall(0, 0), -2);
    Check.due("a unit", () -> b.wall(0, 2), -2);
    Check.due("a goal of the plan", () -> b.wall(8, 2), -3);
    Check.due("a goal of the plan on the present turn", () -> b.wall(7, 2), -3);
    b.send(0, 2, 0);
    Check.due("the goal of an order", () -> b.wall(2, 0), -3);
    b.pass(1);
    Check.due("a goal and a messenger", () -> b.wall(2, 0), -2);
    Check.due("the goal of an obeyed order", () -> b.wall(7, 2), -3);
    b.send(1, 0, 1);
    b.pass(1);
    Check.due("the goal of a replaced order and of a past plan", () -> b.wall(7, 2), 2);
    Check.due("the plan's turn is still to pass", () -> b.wall(8, 2), -3);
    Check.noSuch("wall(9, 0)", () -> b.wall(9, 0));
    Check.noSuch("wall(-1, 0)", () -> b.wall(-1, 0));
    Check.noSuch("wall(0, 3)", () -> b.wall(0, 3));
    Check.noSuch("wall(0, -1)", () -> b.wall(0, -1));
    MessengerBoard ended = Check.boardOf("board 9 3;unit 2 0 1;picket 1 0 0 1 0 0;");
    ended.send(0, 8, 2);
    ended.pass(1);
    Check.due("where a messenger was intercepted", () -> ended.wall(1, 0), 1);
    Check.due("the goal of an intercepted order", () -> ended.wall(8, 2), 2);
  }

  private static void movingPickets() {
    MessengerBoard b = Check.boardOf("board 5 4;wall 4 3;unit 0 1 1;picket 0 0 1 3 1 2;");
    Check.due("it does not watch on turn 0", () -> b.movePicket(0, 4, 3), 0);
    Check.due("its cell", () -> b.picket(0, 0) + " " + b.picket(0, 1), "4 3");
    Check.due("its range goes with it", () -> b.isWatched(3, 2, 1), true);
    Check.due("and leaves the old one", () -> b.isWatched(0, 0, 1), false);
    b.pass(1);
    Check.due("it watches on turn 1", () -> b.movePicket(0, 0, 0), 1);
    Check.due("also where it is", () -> b.movePicket(0, 0, 0), 1);
    Check.due("which is recorded", b::undoCount, 4);
    Check.noSuch("movePicket(1, 0, 0)", () -> b.movePicket(1, 0, 0));
    Check.noSuch("movePicket(-1, 0, 0)", () -> b.movePicket(-1, 0, 0));
    Check.noSuch("movePicket(0, 5, 0)", () -> b.movePicket(0, 5, 0));
    Check.noSuch("movePicket(0, 0, 4)", () -> b.movePicket(0, 0, 4));
    Check.noSuch("movePicket(0, 0, -1)", () -> b.movePicket(0, 0, -1));
  }

  private static void movingPlans() {
    MessengerBoard b = Check.boardOf("board 5 3;unit 4 0 1;plan 0 1 1 3;plan 0 2 2 8;plan 0 3 2 8;");
    Check.due("to a later turn", () -> b.movePlan(0, 8), 3);
    Check.due("back to the present one", () -> b.movePlan(0, 0), 8);
    Check.due("its turn", () -> b.plan(0, 3), 0);
    Check.due("to the last turn", () -> b.movePlan(0, 499), 0);
    Check.due("to the turn of the others", () -> b.movePlan(0, 8), 499);
    Check.illegal("movePlan(0, 500)", () -> b.movePlan(0, 500));
    Check.illegal("movePlan(0, -1)", () -> b.movePlan(0, -1));
    Check.noSuch("movePlan(3, -1): the plan is checked first", () -> b.movePlan(3, -1));
    Check.noSuch("movePlan(-1, 5)", () -> b.movePlan(-1, 5));
    b.pass(8);
    Check.illegal("ahead of the present turn", () -> b.movePlan(0, 7));
    b.pass(1);
    Check.due("its place in the plan stays", () -> b.order(0, 1) + " " + b.order(1, 1), "1 2");
    Check.due("a plan of the past", () -> b.movePlan(0, 20), -2);
    Check.illegal("exceptions come first", () -> b.movePlan(0, 8));
    Check.due("its turn stays", () -> b.plan(0, 3), 8);
  }

  private static void patience() {
    MessengerBoard b = Check.boardOf("board 5 3;patience 4;");
    Check.due("setPatience(30)", () -> b.setPatience(30), 4);
    Check.due("setPatience(1)", () -> b.setPatience(1), 30);
    Check.due("size(9)", () -> b.size(9), 1);
    Check.illegal("setPatience(0)", () -> b.setPatience(0));
    Check.illegal("setPatience(31)", () -> b.setPatience(31));
    Check.due("the same patience", () -> b.setPatience(1), 1);
    Check.due("is recorded, too", b::undoCount, 3);
  }

  private static void row(MessengerBoard b, int y, String want) {
    Check.due("row " + y, () -> Check.rowOf(b, y), want);
  }

  private static void formatting() {
    MessengerBoard b = Check.boardOf("board 7 4;unit 5 2 1;unit 6 0 1;unit 5 2 1;headquarters 2 1;"
        + "wall 0 3;wall 3 2;wall 6 3;picket 3 3 1 2 0 0;");
    row(b, 0, "......1");
    row(b, 1, "..h....");
    row(b, 2, "..!!!0.");
    row(b, 3, "#.!!!.#");
    b.send(1, 5, 2);
    row(b, 1, "..m....");
    b.pass(1);
    row(b, 0, "...m..1");
    row(b, 1, "..h....");
    row(b, 2, "...#.0.");
    row(b, 3, "#.....#");
    b.movePicket(0, 3, 0);
    b.pass(1);
    row(b, 0, "..!!!m1");
  }

  private static void formattedBytes() {
    MessengerBoard b = Check.boardOf("board 5 3;unit 4 0 1;unit 0 0 1;");
    Check.due("the bytes of a row", () -> b.format(0), 5);
    Check.due("the unit ahead of the headquarters", () -> b.formattedByte(0), (int) '1');
    Check.due("the last byte", () -> b.formattedByte(4), (int) '0');
    Check.due("formattedByte(5)", () -> b.formattedByte(5), -1);
    Check.due("formattedByte(-1)", () -> b.formattedByte(-1), -1);
    Check.due("formattedByte(min)", () -> b.formattedByte(Integer.MIN_VALUE), -1);
    Check.noSuch("format(3)", () -> b.format(3));
    Check.noSuch("format(-1)", () -> b.format(-1));
    Check.due("which leaves the text", () -> b.formattedByte(4), (int) '0');
    b.saveSnapshot();
    b.send(0, 0, 2);
    b.pass(9);
    Check.due("so does a pass", () -> b.formattedByte(4), (int) '0');
    b.format(2);
    b.undo();
    Check.due("so does undo", () -> b.formattedByte(0), (int) '0');
    b.restoreSnapshot();
    Check.due("so does the snapshot", () -> b.formattedByte(0), (int) '0');
    Check.load(b, "board 3 3;");
    Check.due("so does load", () -> b.formattedByte(4), (int) '.');
    Check.due("a shorter row", () -> b.format(2), 3);
    Check.due("has no fifth byte", () -> b.formattedByte(4), -1);
  }

  private static void undoing() {
    formattedBytes();
    MessengerBoard b = Check.boardOf("board 5 3;unit 4 0 1;");
    for (int i = 1; i <= 12; i++) {
      b.setPatience(i);
      int count = Math.min(i, 10);
      Check.due("undoCount", b::undoCount, count);
    }
    for (int i = 9; i >= 0; i--) {
      int left = i;
      Check.due("undo", b::undo, left);
      Check.due("patience then", () -> b.size(9), left + 2);
    }
    Check.due("nothing to undo", b::undo, -1);
    Check.due("which changes nothing", () -> b.size(9), 2);
    b.setPatience(9);
    b.pass(1);
    b.undo();
    b.setPatience(8);
    b.undo();
    Check.due("undo after undo", () -> b.size(9), 9);
    b.undo();
    Check.due("and once more", () -> b.size(9), 2);
  }

  private static MessengerBoard busyBoard() {
    MessengerBoard b = Check.boardOf("board 9 4;unit 8 0 1;unit 3 3 2;picket 6 2 1 3 0 1;plan 0 0 3 2;plan 1 8 3 9;");
    b.send(0, 4, 0);
    b.send(1, 0, 3);
    b.pass(2);
    return b;
  }

  private interface Step {
    void on(MessengerBoard board);
  }

  private static String pictureAfter(Step... steps) {
    return Picture.of(() -> {
      MessengerBoard b = busyBoard();
      for (Step step : steps) {
        step.on(b);
      }
      return b;
    });
  }

  private static final Step[] OPERATIONS = {b -> b.pass(7), b -> b.send(1, 7, 3), b -> b.wall(1, 1),
      b -> b.movePicket(0, 1, 0), b -> b.movePlan(1, 12), b -> b.setPatience(1)};

  private static void undoRestoresEverything() {
    String before = pictureAfter();
    Step all = b -> {
      for (Step operation : OPERATIONS) {
        operation.on(b);
      }
    };
    Step back = b -> {
      for (int i = 0; i < OPERATIONS.length; i++) {
        b.undo();
      }
    };
    Check.due("all of them in a row", () -> pictureAfter(all, back).equals(before), true);
    MessengerBoard b = busyBoard();
    for (Step operation : OPERATIONS) {
      operation.on(b);
      Check.due("an operation is undone", b::undo, 3);
    }
    Check.feed(b, "board 3 3;");
    b.undo();
    Check.due("the buffer is not undone", () -> b.load(10), 0);
  }

  private static void snapshots() {
    Step save = MessengerBoard::saveSnapshot;
    Step restore = MessengerBoard::restoreSnapshot;
    MessengerBoard b = busyBoard();
    Check.due("no snapshot", b::restoreSnapshot, false);
    Check.due("keeps the undo history", b::undoCount, 3);
    b.saveSnapshot();
    Check.due("saving is no operation", b::undoCount, 3);
    b.wall(1, 1);
    b.pass(30);
    Check.due("the snapshot", b::restoreSnapshot, true);
    Check.due("clears the undo history", b::undoCount, 0);
    Check.due("so that nothing can be undone", b::undo, -1);
    String before = pictureAfter();
    Step changes = c -> {
      c.wall(1, 1);
      c.pass(30);
      c.setPatience(3);
    };
    Step undone = c -> {
      c.send(0, 5, 0);
      c.undo();
    };
    Check.due("it restores everything", () -> pictureAfter(save, changes, restore).equals(before), true);
    Check.due("undo goes on from there", () -> pictureAfter(save, changes, restore, undone).equals(before), true);
    Check.due("it is kept", () -> pictureAfter(save, changes, restore, c -> c.pass(5), restore).equals(before), true);
    Check.due("a later one replaces it", () -> pictureAfter(save, c -> c.pass(1), save, changes, restore)
        .equals(pictureAfter(c -> c.pass(1))), true);
    Check.load(b, "board 3 3;");
    Check.due("load discards it", b::restoreSnapshot, false);
  }

  private static void snapshotAndPast() {
    MessengerBoard b = Check.boardOf("board 9 3;unit 2 0 1;");
    b.send(0, 8, 0);
    b.pass(4);
    b.saveSnapshot();
    b.undo();
    b.send(0, 2, 2);
    b.pass(4);
    Check.due("one past", () -> b.wasAt(0, 2), 202);
    b.restoreSnapshot();
    Check.due("the snapshot's past", () -> b.wasAt(0, 2), 4);
    Check.due("and its present", () -> b.wasAt(0, 4), 6);
  }
}
