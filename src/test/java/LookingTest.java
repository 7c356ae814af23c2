/** Promises 5 to 18: what the board tells of itself and of what happened. */
public final class LookingTest {
  /** The order to 0 2 is sent on turn 0, arrives on turn 1 at 4 0 and is done on turn 6. */
  private static final String PLAIN = "board 5 3;unit 4 0 1;";

  private LookingTest() {
  }

  public static void main(String[] args) {
    sizes();
    units();
    pickets();
    watching();
    orders();
    plans();
    events();
    orderOfEvents();
    states();
    walls();
    distances();
    steps();
    thePast();
    crossing();
    lost();
    messengersWithoutAWay();
    paces();
    goalsInWalls();
    unitAtHeadquarters();
    Check.end();
  }

  private static MessengerBoard plainRun() {
    MessengerBoard b = Check.boardOf(PLAIN);
    b.send(0, 0, 2);
    b.pass(7);
    return b;
  }

  private static void sizes() {
    MessengerBoard b = Check.boardOf("board 6 4;unit 5 3 1;unit 1 1 1;picket 5 0 0 1 0 0;wall 2 2;"
        + "wall 2 3;wall 3 0;patience 17;plan 1 5 3 20;plan 0 0 0 21;headquarters 1 2;");
    b.send(1, 1, 1);
    b.send(1, 1, 1);
    b.send(1, 1, 1);
    b.pass(4);
    int[] want = {6, 4, 2, 1, 3, 4, 3, 6, 2, 17, 1, 2};
    for (int what = 0; what < want.length; what++) {
      int asked = what;
      Check.due("size(" + what + ")", () -> b.size(asked), want[what]);
    }
    Check.noSuch("size(-1)", () -> b.size(-1));
    Check.noSuch("size(12)", () -> b.size(12));
    Check.noSuch("size(min)", () -> b.size(Integer.MIN_VALUE));
  }

  private static void unitIs(MessengerBoard b, int unit, int... want) {
    for (int what = 0; what < want.length; what++) {
      int asked = what;
      Check.due("unit(" + unit + ", " + what + ")", () -> b.unit(unit, asked), want[what]);
    }
  }

  private static void units() {
    MessengerBoard b = Check.boardOf(PLAIN + "unit 4 2 3;");
    unitIs(b, 0, 4, 0, 1, -1, -1, 0);
    unitIs(b, 1, 4, 2, 3, -1, -1, 0);
    b.send(0, 0, 2);
    b.send(0, 1, 2);
    b.send(1, 0, 0);
    unitIs(b, 0, 4, 0, 1, -1, -1, 2);
    b.pass(2);
    unitIs(b, 0, 4, 1, 1, 1, 1, 0);
    unitIs(b, 1, 4, 2, 3, -1, -1, 1);
    b.pass(5);
    unitIs(b, 0, 1, 2, 1, 1, -1, 0);
    unitIs(b, 1, 4, 0, 3, 2, 2, 0);
    Check.noSuch("unit(2, 0)", () -> b.unit(2, 0));
    Check.noSuch("unit(-1, 0)", () -> b.unit(-1, 0));
    Check.noSuch("unit(0, 6)", () -> b.unit(0, 6));
    Check.noSuch("unit(0, -1)", () -> b.unit(0, -1));
    Check.noSuch("unit(0, 0) of a new object", () -> new MessengerBoard().unit(0, 0));
  }

  private static void pickets() {
    MessengerBoard b = Check.boardOf("board 7 3;unit 6 0 1;picket 2 2 2 4 1 2;picket 1 1 1 3 1 1;");
    int[] want = {2, 2, 2, 4, 1, 2, 0, 0};
    for (int what = 0; what < want.length; what++) {
      int asked = what;
      Check.due("picket(0, " + what + ")", () -> b.picket(0, asked), want[what]);
    }
    b.pass(1);
    Check.due("it watches on turn 1", () -> b.picket(0, 6), 1);
    b.send(0, 5, 0);
    b.send(0, 5, 0);
    b.pass(1);
    Check.due("of two the lowest one intercepts", () -> b.picket(0, 7), 2);
    Check.due("and not the other one", () -> b.picket(1, 7), 0);
    Check.due("it is intercepted at the first cell", () -> b.order(0, 7), 1);
    Check.due("which is a step", () -> b.order(0, 9), 1);
    Check.due("it still watches on turn 2", () -> b.picket(0, 6), 1);
    b.pass(1);
    Check.due("it does not on turn 3", () -> b.picket(0, 6), 0);
    Check.due("the other one on turn 3 neither", () -> b.picket(1, 6), 0);
    b.pass(1);
    Check.due("but on turn 4", () -> b.picket(1, 6), 1);
    Check.noSuch("picket(2, 0)", () -> b.picket(2, 0));
    Check.noSuch("picket(-1, 0)", () -> b.picket(-1, 0));
    Check.noSuch("picket(0, 8)", () -> b.picket(0, 8));
    Check.noSuch("picket(0, -1)", () -> b.picket(0, -1));
  }

  private static void watching() {
    MessengerBoard b = Check.boardOf("board 9 9;wall 4 4;wall 2 2;picket 4 4 2 5 1 3;picket 8 8 0 1 0 0;");
    Check.due("the corner of the range", () -> b.isWatched(2, 2, 1), true);
    Check.due("the other corner", () -> b.isWatched(6, 2, 3), true);
    Check.due("outside by x", () -> b.isWatched(1, 4, 1), false);
    Check.due("outside by y", () -> b.isWatched(4, 7, 1), false);
    Check.due("ahead of the first number", () -> b.isWatched(4, 4, 0), false);
    Check.due("behind the last number", () -> b.isWatched(4, 4, 4), false);
    Check.due("in the next period", () -> b.isWatched(4, 4, 6), true);
    Check.due("far later", () -> b.isWatched(4, 4, 2147483646), true);
    Check.due("at the end of time", () -> b.isWatched(4, 4, 2147483645), false);
    Check.due("a range of 0", () -> b.isWatched(8, 8, 4), true);
    Check.due("beside a range of 0", () -> b.isWatched(8, 7, 4), false);
    Check.noSuch("isWatched(9, 0, 0)", () -> b.isWatched(9, 0, 0));
    Check.noSuch("isWatched(0, -1, 0)", () -> b.isWatched(0, -1, 0));
    Check.noSuch("the cell is checked first", () -> b.isWatched(0, 9, -1));
    Check.illegal("isWatched(0, 0, -1)", () -> b.isWatched(0, 0, -1));
  }

  private static void orderIs(MessengerBoard b, int order, int... want) {
    for (int what = 0; what < want.length; what++) {
      int asked = what;
      Check.due("order(" + order + ", " + what + ")", () -> b.order(order, asked), want[what]);
    }
  }

  private static void orders() {
    MessengerBoard b = Check.boardOf(PLAIN);
    b.send(0, 0, 2);
    orderIs(b, 0, 0, 0, 2, 0, 0, -1, -1, 0, 0, 0);
    b.pass(1);
    orderIs(b, 0, 0, 0, 2, 0, 0, -1, -1, 2, 0, 2);
    b.pass(1);
    orderIs(b, 0, 0, 0, 2, 1, 0, 1, -1, 4, 0, 4);
    b.pass(4);
    Check.due("not done yet", () -> b.order(0, 3), 1);
    b.pass(1);
    orderIs(b, 0, 0, 0, 2, 2, 0, 1, 6, 4, 0, 4);
    b.send(0, 3, 1);
    orderIs(b, 1, 0, 3, 1, 0, 7, -1, -1, 0, 0, 0);
    b.pass(1);
    b.undo();
    b.undo();
    b.send(0, 3, 1);
    orderIs(b, 1, 0, 3, 1, 0, 7, -1, -1, 0, 0, 0);
    Check.noSuch("order(2, 0)", () -> b.order(2, 0));
    Check.noSuch("order(-1, 0)", () -> b.order(-1, 0));
    Check.noSuch("order(0, 10)", () -> b.order(0, 10));
    Check.noSuch("order(0, -1)", () -> b.order(0, -1));
  }

  private static void plans() {
    MessengerBoard b = Check.boardOf(PLAIN + "plan 0 3 2 5;plan 0 1 1 2;plan 0 0 1 2;");
    int[] want = {0, 3, 2, 5};
    for (int what = 0; what < want.length; what++) {
      int asked = what;
      Check.due("plan(0, " + what + ")", () -> b.plan(0, asked), want[what]);
    }
    Check.noSuch("plan(3, 0)", () -> b.plan(3, 0));
    Check.noSuch("plan(-1, 0)", () -> b.plan(-1, 0));
    Check.noSuch("plan(0, 4)", () -> b.plan(0, 4));
    Check.noSuch("plan(0, -1)", () -> b.plan(0, -1));
    b.pass(2);
    Check.due("not sent ahead of the turn", () -> b.size(4), 0);
    b.pass(1);
    Check.due("both are sent on turn 2", () -> b.size(4), 2);
    Check.due("in the order of the plan", () -> b.order(0, 1) + " " + b.order(1, 1), "1 0");
    Check.due("and go on at once", () -> b.order(1, 9), 2);
    b.pass(3);
    Check.due("the first one of the plan is the last one sent", () -> b.order(2, 1), 3);
    Check.due("plans stay", () -> b.size(8), 3);
    MessengerBoard full = Check.boardOf("board 3 3;unit 2 2 1;plan 0 1 1 3;plan 0 2 2 4;");
    for (int i = 0; i < 40; i++) {
      full.send(0, 1, 1);
    }
    full.pass(5);
    Check.due("with 40 orders the plan is left out", () -> full.size(4), 40);
  }

  private static void eventIs(MessengerBoard b, int event, int turn, int order, int state) {
    int[] want = {turn, order, state};
    for (int what = 0; what < 3; what++) {
      int asked = what;
      Check.due("event(" + event + ", " + what + ")", () -> b.event(event, asked), want[what]);
    }
  }

  private static void events() {
    MessengerBoard b = plainRun();
    Check.due("events", () -> b.size(7), 2);
    eventIs(b, 0, 1, 0, 1);
    eventIs(b, 1, 6, 0, 2);
    Check.noSuch("event(2, 0)", () -> b.event(2, 0));
    Check.noSuch("event(-1, 0)", () -> b.event(-1, 0));
    Check.noSuch("event(0, 3)", () -> b.event(0, 3));
    Check.noSuch("event(0, -1)", () -> b.event(0, -1));
    Check.noSuch("event(0, 0) of a new object", () -> new MessengerBoard().event(0, 0));
  }

  /** Messengers first, then what is lost, then the units; the replaced order ahead of the obeyed one. */
  private static void orderOfEvents() {
    MessengerBoard b = Check.boardOf("board 9 3;patience 1;unit 8 0 1;unit 2 0 1;unit 0 2 1;");
    b.send(0, 0, 0);
    b.send(1, 8, 2);
    b.send(2, 0, 2);
    b.send(1, 8, 1);
    b.pass(1);
    eventIs(b, 0, 0, 1, 1);
    eventIs(b, 1, 0, 2, 1);
    eventIs(b, 2, 0, 1, 6);
    eventIs(b, 3, 0, 3, 1);
    eventIs(b, 4, 0, 2, 2);
    b.send(2, 0, 2);
    b.pass(1);
    eventIs(b, 5, 1, 4, 1);
    eventIs(b, 6, 1, 0, 4);
    eventIs(b, 7, 1, 4, 2);
    Check.due("no other events", () -> b.size(7), 8);
    Check.due("the turn of the replaced one's end", () -> b.order(1, 6), 0);
    Check.due("it had arrived", () -> b.order(1, 5), 0);
  }

  private static void states() {
    MessengerBoard b = plainRun();
    b.send(0, 4, 2);
    b.send(0, 4, 2);
    Check.due("orders(0)", () -> b.orders(0), 2);
    Check.due("orders(1)", () -> b.orders(1), 0);
    Check.due("orders(2)", () -> b.orders(2), 1);
    b.pass(1);
    Check.due("orders(1) then", () -> b.orders(1), 1);
    Check.due("orders(6) then", () -> b.orders(6), 1);
    Check.illegal("orders(-1)", () -> b.orders(-1));
    Check.illegal("orders(7)", () -> b.orders(7));
  }

  private static void walls() {
    MessengerBoard b = Check.boardOf("board 4 3;wall 3 1;");
    Check.due("isWall(3, 1)", () -> b.isWall(3, 1), true);
    Check.due("isWall(2, 1)", () -> b.isWall(2, 1), false);
    Check.due("isWall(1, 2)", () -> b.isWall(1, 2), false);
    Check.noSuch("isWall(4, 0)", () -> b.isWall(4, 0));
    Check.noSuch("isWall(-1, 0)", () -> b.isWall(-1, 0));
    Check.noSuch("isWall(0, 3)", () -> b.isWall(0, 3));
    Check.noSuch("isWall(0, -1)", () -> b.isWall(0, -1));
  }

  private static void distances() {
    MessengerBoard b = Check.boardOf("board 5 3;wall 1 0;wall 1 1;wall 3 1;wall 3 2;wall 4 1;");
    Check.due("round the walls", () -> b.distance(0, 0, 2, 0), 6);
    Check.due("the same the other way", () -> b.distance(2, 0, 0, 0), 6);
    Check.due("to itself", () -> b.distance(2, 1, 2, 1), 0);
    Check.due("no way", () -> b.distance(0, 0, 4, 2), -1);
    Check.due("to a wall", () -> b.distance(0, 0, 1, 0), -1);
    Check.due("from a wall", () -> b.distance(1, 0, 0, 0), -1);
    Check.due("from a wall to itself", () -> b.distance(1, 0, 1, 0), -1);
    Check.noSuch("distance(5, 0, 0, 0)", () -> b.distance(5, 0, 0, 0));
    Check.noSuch("distance(0, 3, 0, 0)", () -> b.distance(0, 3, 0, 0));
    Check.noSuch("distance(0, 0, -1, 0)", () -> b.distance(0, 0, -1, 0));
    Check.noSuch("distance(0, 0, 0, -1)", () -> b.distance(0, 0, 0, -1));
    b.wall(1, 0);
    Check.due("a wall less", () -> b.distance(0, 0, 2, 0), 2);
    Check.due("also to the headquarters", () -> b.distance(2, 0, 0, 0), 2);
    b.undo();
    Check.due("and again", () -> b.distance(0, 0, 2, 0), 6);
    Check.due("as it was", () -> b.distance(2, 0, 0, 0), 6);
    b.saveSnapshot();
    b.wall(1, 2);
    Check.due("a wall more", () -> b.distance(0, 0, 2, 0), -1);
    b.restoreSnapshot();
    Check.due("and back", () -> b.distance(0, 0, 2, 0), 6);
  }

  private static void steps() {
    MessengerBoard b = Check.boardOf("board 5 5;wall 2 1;headquarters 2 2;");
    Check.due("right is ahead of down", () -> b.step(0, 0, 2, 2), 1);
    Check.due("up is ahead of right", () -> b.step(0, 4, 2, 2), 300);
    Check.due("up is ahead of left", () -> b.step(4, 4, 3, 3), 304);
    Check.due("down is ahead of left", () -> b.step(4, 0, 3, 3), 104);
    Check.due("round the wall to the right", () -> b.step(2, 2, 2, 0), 203);
    Check.due("left at last", () -> b.step(4, 2, 0, 2), 203);
    Check.due("the target itself", () -> b.step(3, 4, 3, 4), 403);
    Check.due("to a wall", () -> b.step(2, 2, 2, 1), -1);
    Check.due("from a wall", () -> b.step(2, 1, 2, 2), -1);
    Check.due("from a wall to itself", () -> b.step(2, 1, 2, 1), -1);
    Check.noSuch("step(5, 0, 0, 0)", () -> b.step(5, 0, 0, 0));
    Check.noSuch("step(0, -1, 0, 0)", () -> b.step(0, -1, 0, 0));
    Check.noSuch("step(0, 0, -1, 0)", () -> b.step(0, 0, -1, 0));
    Check.noSuch("step(0, 0, 0, 5)", () -> b.step(0, 0, 0, 5));
    b.wall(3, 4);
    b.wall(4, 3);
    Check.due("no way", () -> b.step(4, 4, 0, 0), -1);
  }

  private static void thePast() {
    MessengerBoard b = plainRun();
    int[] places = {4, 4, 104, 204, 203, 202, 201, 200};
    for (int turn = 0; turn < places.length; turn++) {
      int asked = turn;
      Check.due("wasAt(0, " + turn + ")", () -> b.wasAt(0, asked), places[turn]);
    }
    int[] states = {-1, 0, 1, 1, 1, 1, 1, 2};
    for (int turn = 0; turn < states.length; turn++) {
      int asked = turn;
      Check.due("stateAt(0, " + turn + ")", () -> b.stateAt(0, asked), states[turn]);
    }
    b.send(0, 4, 0);
    Check.due("an order sent on the present turn", () -> b.stateAt(1, 7), -1);
    Check.noSuch("wasAt(1, 0)", () -> b.wasAt(1, 0));
    Check.noSuch("wasAt(-1, -1): the unit is checked first", () -> b.wasAt(-1, -1));
    Check.illegal("wasAt(0, -1)", () -> b.wasAt(0, -1));
    Check.illegal("wasAt(0, 8)", () -> b.wasAt(0, 8));
    Check.noSuch("stateAt(2, 0)", () -> b.stateAt(2, 0));
    Check.noSuch("stateAt(-1, 99): the order is checked first", () -> b.stateAt(-1, 99));
    Check.illegal("stateAt(0, -1)", () -> b.stateAt(0, -1));
    Check.illegal("stateAt(0, 8)", () -> b.stateAt(0, 8));
    b.undo();
    b.undo();
    Check.illegal("undone turns are no past", () -> b.wasAt(0, 1));
    b.setPatience(30);
    b.pass(1);
    b.send(0, 4, 2);
    b.pass(8);
    // Order 1 reaches the unit on turn 3, in its goal.
    Check.due("another past begins alike", () -> b.wasAt(0, 3), 204);
    Check.due("and goes on in another way", () -> b.wasAt(0, 4), 204);
    Check.due("the order ahead of its replacement", () -> b.stateAt(0, 3), 1);
    Check.due("the replaced order", () -> b.stateAt(0, 4), 6);
    for (int i = 0; i < 8; i++) {
      b.pass(60);
    }
    b.pass(11);
    Check.due("turn 500", () -> b.size(5), 500);
    Check.due("wasAt(0, 499)", () -> b.wasAt(0, 499), 204);
    Check.due("wasAt(0, 500)", () -> b.wasAt(0, 500), 204);
  }

  /** Order 0 is shut in while order 1 takes another way. */
  private static void crossing() {
    MessengerBoard b = Check.boardOf("board 5 3;unit 4 0 1;unit 0 0 1;");
    b.send(0, 0, 2);
    b.pass(1);
    b.wall(1, 0);
    b.wall(3, 0);
    b.wall(2, 1);
    b.send(0, 4, 0);
    b.send(1, 0, 0);
    Check.due("the newer order is done", () -> b.pass(4), 4);
    Check.due("the older one is where it was", () -> b.order(0, 7) + " " + b.order(0, 9), "2 2");
    Check.due("nothing crossed yet", b::crossed, 0);
    b.wall(3, 0);
    Check.due("the older one arrives", () -> b.pass(1), 1);
    Check.due("late", () -> b.order(0, 3), 3);
    Check.due("it arrived all the same", () -> b.order(0, 5) + " " + b.order(0, 6), "5 5");
    Check.due("crossed", b::crossed, 1);
    Check.due("the greatest order that the unit obeyed", () -> b.unit(0, 3), 1);
    Check.due("orders(3)", () -> b.orders(3), 1);
    Check.due("meanDelay", b::meanDelay, 8.0 / 3.0);
    Check.due("success", b::success, 2.0f / 3.0f);
    MessengerBoard same = Check.boardOf("board 5 3;unit 2 0 1;");
    same.send(0, 2, 0);
    same.send(0, 2, 0);
    same.pass(1);
    Check.due("arrived on the same turn", same::crossed, 0);
  }

  private static void lost() {
    MessengerBoard b = Check.boardOf("board 12 3;unit 11 2 1;patience 2;");
    b.send(0, 0, 0);
    Check.due("not lost yet", () -> b.pass(2), 0);
    Check.due("lost", () -> b.pass(1), 1);
    orderIs(b, 0, 0, 0, 0, 4, 0, -1, 2, 6, 0, 6);
    MessengerBoard last = Check.boardOf("board 9 3;unit 6 0 1;patience 2;");
    last.send(0, 6, 0);
    last.pass(3);
    Check.due("arriving on the last turn is in time", () -> last.order(0, 3), 2);
    MessengerBoard less = Check.boardOf("board 12 12;unit 11 11 1;");
    less.send(0, 0, 0);
    less.pass(5);
    less.setPatience(3);
    Check.due("a patience that is over already", () -> less.pass(1), 1);
  }

  private static void messengersWithoutAWay() {
    MessengerBoard b = Check.boardOf("board 5 3;wall 2 0;wall 2 1;wall 2 2;unit 4 0 1;picket 0 0 0 1 0 0;");
    b.send(0, 3, 0);
    Check.due("no step is no interception", () -> b.pass(30), 0);
    orderIs(b, 0, 0, 3, 0, 0, 0, -1, -1, 0, 0, 0);
    Check.due("lost in the end", () -> b.pass(1), 1);
    Check.due("at last", () -> b.order(0, 3), 4);
  }

  private static void paces() {
    MessengerBoard b = Check.boardOf("board 9 3;unit 1 0 3;unit 1 1 2;");
    b.pass(1);
    b.send(0, 1, 2);
    b.send(1, 5, 1);
    b.pass(2);
    Check.due("pace 3 waits for turn 3", () -> b.wasAt(0, 3), 1);
    Check.due("pace 2 moves on turn 2", () -> b.wasAt(1, 3), 102);
    b.pass(1);
    Check.due("pace 3 moves on turn 3", () -> b.wasAt(0, 4), 101);
    Check.due("pace 2 does not", () -> b.wasAt(1, 4), 102);
    b.pass(3);
    Check.due("pace 3 is there on turn 6", () -> b.order(0, 6), 6);
    MessengerBoard there = Check.boardOf("board 3 3;unit 1 0 3;");
    there.pass(1);
    there.send(0, 1, 0);
    Check.due("who is there already needs no step", () -> there.pass(1), 2);
    Check.due("and is done at once", () -> there.order(0, 6), 1);
  }

  /** A text may put a wall on the goal of a plan: the unit obeys, but has no step to take. */
  private static void goalsInWalls() {
    MessengerBoard b = Check.boardOf("board 5 3;unit 2 0 1;plan 0 4 2 0;wall 4 2;");
    Check.due("wall on a goal", () -> b.wall(4, 2), -3);
    b.pass(5);
    Check.due("obeyed, but not done", () -> b.order(0, 3), 1);
    Check.due("the unit stays", () -> b.wasAt(0, 5), 2);
    Check.due("still a goal", () -> b.wall(4, 2), -3);
  }

  private static void unitAtHeadquarters() {
    MessengerBoard b = Check.boardOf("board 4 3;headquarters 1 1;unit 1 1 1;picket 1 1 3 1 0 0;");
    b.send(0, 3, 1);
    Check.due("arrives without a step", () -> b.pass(1), 1);
    orderIs(b, 0, 0, 3, 1, 1, 0, 0, -1, 1, 1, 0);
    b.send(0, 3, 1);
    b.pass(1);
    Check.due("a picket comes ahead of the arrival", () -> b.order(1, 3), 5);
    Check.due("it did not arrive", () -> b.order(1, 5), -1);
    Check.due("its end", () -> b.order(1, 6), 1);
    Check.due("its steps", () -> b.order(1, 9), 1);
    Check.due("the picket's count", () -> b.picket(0, 7), 1);
  }
}
