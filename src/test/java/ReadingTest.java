/** Promises 1 to 4 and 37: a new object, the buffer, texts and queries. */
public final class ReadingTest {
  private static final String MANY_UNITS =
      "board 9 9;unit 0 0 1;unit 1 0 1;unit 2 0 1;unit 3 0 1;unit 4 0 1;unit 5 0 1;";

  private ReadingTest() {
  }

  public static void main(String[] args) {
    newObject();
    feeding();
    loading();
    loadingReplacesEverything();
    headerErrors();
    clauseErrors();
    wallErrors();
    tooManyClauses();
    errorPositions();
    queries();
    queryGrammar();
    queryErrors();
    queryDepth();
    queryLengths();
    Check.end();
  }

  private static void newObject() {
    MessengerBoard b = new MessengerBoard();
    int[] sizes = {3, 3, 0, 0, 0, 0, 0, 0, 0, 30, 0, 0};
    for (int what = 0; what < sizes.length; what++) {
      int asked = what;
      Check.due("new: size(" + what + ")", () -> b.size(asked), sizes[what]);
    }
    Check.due("new: errorPosition", b::errorPosition, -1);
    Check.due("new: undoCount", b::undoCount, 0);
    Check.due("new: undo", b::undo, -1);
    Check.due("new: restoreSnapshot", b::restoreSnapshot, false);
    Check.due("new: formattedByte", () -> b.formattedByte(0), -1);
    Check.due("new: row", () -> Check.rowOf(b, 0), "h..");
    Check.due("new: empty buffer", () -> b.load(0), -11);
    Check.due("new: distance", () -> b.distance(0, 0, 2, 2), 4);
  }

  private static void feeding() {
    MessengerBoard b = new MessengerBoard();
    Check.due("first feed", () -> b.feed(0x626f6172, 0x64203420, 0x353b2020, 0x20202020, 0x20202020), 20);
    Check.due("its bytes, the most significant first", () -> b.load(20), 0);
    Check.due("width", () -> b.size(0), 4);
    Check.due("height", () -> b.size(1), 5);
    for (int i = 1; i <= 30; i++) {
      Check.due("feed " + i, () -> b.feed(-1, 0, 1, 2, 3), 20 * i);
    }
    Check.due("feed over 600", () -> b.feed(0, 0, 0, 0, 0), -1);
    Check.illegal("load over the buffer", () -> b.load(601));
    Check.due("a byte of 255 is a token by itself", () -> b.load(600), -11);
    Check.due("at its place", b::errorPosition, 0);
    Check.due("feed after load", () -> b.feed(0, 0, 0, 0, 0), 20);
  }

  private static void loading() {
    MessengerBoard b = new MessengerBoard();
    Check.due("load", () -> Check.load(b, "board 12 003;\n\nwall 1 1 ; headquarters 2 1;unit 3 2 3;"
        + "picket 1 1 3 20 0 19;picket 0 0 0 1 0 0;patience 7;patience5;plan 0 11 2 499;headquarters 4 0;"), 1);
    int[] sizes = {12, 3, 1, 2, 0, 0, 1, 0, 1, 5, 4, 0};
    for (int what = 0; what < sizes.length; what++) {
      int asked = what;
      Check.due("loaded: size(" + what + ")", () -> b.size(asked), sizes[what]);
    }
    Check.due("loaded: errorPosition", b::errorPosition, -1);
    Check.illegal("load(-1)", () -> b.load(-1));
    Check.illegal("load(1) of an empty buffer", () -> b.load(1));
    Check.due("only the first bytes are read", () -> {
      Check.feed(b, "board 3 4;unit 9 9 9;");
      return b.load(10);
    }, 0);
    Check.due("and the buffer is empty then", () -> b.feed(0, 0, 0, 0, 0), 20);
    Check.illegal("a refused load keeps the buffer", () -> b.load(21));
    Check.due("so that it goes on", () -> b.feed(0, 0, 0, 0, 0), 40);
    Check.due("zero bytes are tokens that are not allowed", () -> b.load(40), -11);
    Check.due("a text of blanks ends too early", () -> Check.load(new MessengerBoard(), " \n "), -11);
    Check.due("tokens without blanks", () -> Check.load(b, "board3 4;unit0 0 1;unit1 1 2;"), 2);
    Check.due("the greatest board", () -> Check.load(b, "board 12 12;unit 11 11 3;"), 1);
  }

  private static void loadingReplacesEverything() {
    MessengerBoard b = Check.boardOf("board 5 5;unit 2 0 1;picket 4 0 0 1 0 0;wall 3 3;patience 9;plan 0 2 4 1;"
        + "plan 0 2 4 1;unit 4 1 1;");
    b.send(0, 4, 0);
    b.send(1, 4, 0);
    b.pass(5);
    Check.due("before: the picket's count", () -> b.picket(0, 7), 3);
    Check.due("before: a distance", () -> b.distance(3, 3, 4, 3), -1);
    b.saveSnapshot();
    b.format(0);
    Check.due("a load with an error", () -> Check.load(b, "board 3 3;unit"), -11);
    Check.due("keeps the turn", () -> b.size(5), 5);
    Check.due("keeps the undo history", b::undoCount, 3);
    Check.due("keeps the snapshot", b::restoreSnapshot, true);
    Check.due("keeps the walls", () -> b.isWall(3, 3), true);
    b.send(0, 4, 0);
    b.failing(3);
    Check.due("a load", () -> Check.load(b, "board 5 5;unit 2 0 1;picket 4 0 0 1 0 0;"), 1);
    int[] sizes = {5, 5, 1, 1, 0, 0, 0, 0, 0, 30, 0, 0};
    for (int what = 0; what < sizes.length; what++) {
      int asked = what;
      Check.due("replaced: size(" + what + ")", () -> b.size(asked), sizes[what]);
    }
    Check.due("replaced: undoCount", b::undoCount, 0);
    Check.due("replaced: no snapshot", b::restoreSnapshot, false);
    Check.due("replaced: the unit never obeyed", () -> b.unit(0, 3), -1);
    Check.due("replaced: the picket caught none", () -> b.picket(0, 7), 0);
    Check.due("replaced: distances", () -> b.distance(3, 3, 4, 3), 1);
    Check.due("replaced: the text of format stays", () -> (char) b.formattedByte(0), 'h');
  }

  private static void error(String text, int code, int position) {
    MessengerBoard b = new MessengerBoard();
    Check.due("load \"" + text + "\"", () -> Check.load(b, text), -10 - code);
    Check.due("position in \"" + text + "\"", b::errorPosition, position);
  }

  private static void headerErrors() {
    error("", 1, 0);
    error("  ", 1, 2);
    error("bord 3 3;", 1, 0);
    error("boards 3 3;", 1, 0);
    error("boardz 3 3;", 1, 0);
    error("boar", 1, 0);
    error("Board 3 3;", 1, 0);
    error("board", 1, 5);
    error("board x 3;", 1, 6);
    error("board -3 3;", 1, 6);
    error("board 2 3;", 2, 6);
    error("board 13 3;", 2, 6);
    error("board 3 2;", 2, 8);
    error("board 3 13;", 2, 8);
    error("board 4294967299 3;", 2, 6);
    error("board 99999999999999999999999999 3;", 2, 6);
    error("board 3 3", 1, 9);
    error("board 3 3 wall 1 1;", 1, 10);
    error("board 3 3;;", 1, 10);
    error("board 3 3;\t", 1, 10);
    error("board 3 3; 5", 1, 11);
    error("board 3 3; fort 1 1;", 1, 11);
    error("board 3 3; wallz 1 1;", 1, 11);
    error("board 3 3; wall{ 1 1;", 1, 15);
    error("board 3 3; wall` 1 1;", 1, 15);
    error("board 3 3; wall /1 1;", 1, 16);
    error("board 3 3; wall 1: 1;", 1, 17);
  }

  private static void clauseErrors() {
    error("board 3 4; unit 3 0 1;", 2, 16);
    error("board 3 4; unit 0 4 1;", 2, 18);
    error("board 3 4; unit 0 3 0;", 2, 20);
    error("board 3 4; unit 0 3 4;", 2, 20);
    error("board 3 4; unit 0 3 1", 1, 21);
    error("board 3 4; headquarters 3 0;", 2, 24);
    error("board 3 4; headquarters 0 4;", 2, 26);
    error("board 3 4; headquarters 0;", 1, 25);
    error("board 3 4; patience 0;", 2, 20);
    error("board 3 4; patience 31;", 2, 20);
    error("board 3 4; picket 3 0 0 1 0 0;", 2, 18);
    error("board 3 4; picket 0 4 0 1 0 0;", 2, 20);
    error("board 3 4; picket 0 0 4 1 0 0;", 2, 22);
    error("board 3 4; picket 0 0 0 0 0 0;", 2, 24);
    error("board 3 4; picket 0 0 0 21 0 0;", 2, 24);
    error("board 3 4; picket 0 0 0 5 5 5;", 2, 26);
    error("board 3 4; picket 0 0 0 5 0 5;", 2, 28);
    error("board 3 4; picket 0 0 0 5 3 2;", 4, 28);
    error("board 3 4; picket 0 0 0 5 3;", 1, 27);
    error("board 3 4; plan 0 0 0 0;", 2, 16);
    error("board 3 4; unit 0 0 1; plan 1 0 0 0;", 2, 28);
    error("board 3 4; unit 0 0 1; plan 0 3 0 0;", 2, 30);
    error("board 3 4; unit 0 0 1; plan 0 0 4 0;", 2, 32);
    error("board 3 4; unit 0 0 1; plan 0 0 0 500;", 2, 34);
    error("board 3 4; unit 0 0 1; plan 0 0 0 ;", 1, 34);
  }

  private static void wallErrors() {
    error("board 3 4; wall 3 0;", 2, 16);
    error("board 3 4; wall 0 4;", 2, 18);
    error("board 3 4; wall 0 0;", 4, 18);
    error("board 3 4; wall 1 1; wall 1 1;", 4, 28);
    error("board 3 4; unit 1 1 1; wall 1 1;", 4, 30);
    error("board 3 4; headquarters 1 1; wall 1 1;", 4, 36);
    error("board 3 4; wall 1 1; headquarters 1 1;", 4, 36);
    error("board 3 4; wall 1 1; unit 1 1 1;", 4, 28);
    error("board 3 4; unit 0 0 1; wall 1 1; plan 0 1 1 0;", 4, 42);
    MessengerBoard b = new MessengerBoard();
    Check.due("a wall where the headquarters were", () -> Check.load(b,
        "board 3 3;headquarters 1 1;headquarters 2 2;wall 0 0;wall 1 1;"), 0);
    Check.due("walls", () -> b.size(6), 2);
    Check.due("a wall on the goal of a plan may be told", () -> Check.load(b,
        "board 3 3;unit 0 0 1;plan 0 1 1 0;wall 1 1;"), 1);
    Check.due("units and headquarters in one cell", () -> Check.load(b,
        "board 3 3;unit 0 0 1;unit 0 0 2;unit 1 1 1;headquarters 1 1;picket 2 2 0 1 0 0;wall 2 2;"), 3);
  }

  private static void tooManyClauses() {
    error(MANY_UNITS + "unit 0 0 1;", 3, MANY_UNITS.length());
    String pickets = "board 9 9;" + "picket 0 0 0 1 0 0;".repeat(4);
    error(pickets + "picket", 3, pickets.length());
    String plans = "board 9 9;unit 0 0 1;" + "plan 0 1 1 9;".repeat(20);
    error(plans + "plan", 3, plans.length());
    MessengerBoard b = new MessengerBoard();
    Check.due("six units", () -> Check.load(b, MANY_UNITS), 6);
    Check.due("four pickets", () -> Check.load(b, pickets), 0);
    Check.due("twenty plans", () -> Check.load(b, plans), 1);
  }

  private static void errorPositions() {
    MessengerBoard b = new MessengerBoard();
    Check.load(b, "board 3 x");
    Check.due("errorPosition of a load", b::errorPosition, 8);
    Check.illegal("a load that reads nothing", () -> b.load(5));
    Check.illegal("a query that reads nothing", () -> b.query(5));
    Check.due("keeps the position", b::errorPosition, 8);
    b.undo();
    Check.due("so does undo", b::errorPosition, 8);
    Check.query(b, "many x=");
    Check.due("errorPosition of a query", b::errorPosition, 7);
    Check.query(b, "many x=1");
    Check.due("errorPosition of a good query", b::errorPosition, -1);
    Check.load(b, "board 3 3;wall 0 0;");
    Check.due("errorPosition of the next load", b::errorPosition, 17);
    Check.load(b, "board 3 3;");
    Check.due("errorPosition of a good load", b::errorPosition, -1);
    Check.due("the length of the text, not of the buffer", () -> {
      Check.feed(b, "board 3 3;");
      return b.load(9);
    }, -11);
    Check.due("its position", b::errorPosition, 9);
  }

  /** Order 0 is done, 1 intercepted, 2 on its way, 3 replaced, 4 obeyed. */
  private static MessengerBoard fiveOrders() {
    MessengerBoard b = Check.boardOf("board 9 3;unit 2 0 1;unit 8 2 1;unit 0 2 2;picket 6 0 2 20 3 3;");
    b.send(0, 3, 0);
    b.pass(3);
    b.send(1, 8, 0);
    b.send(1, 7, 0);
    b.pass(1);
    b.movePicket(0, 8, 2);
    return b;
  }

  private static void asked(MessengerBoard b, String text, int want) {
    Check.due("query \"" + text + "\"", () -> Check.query(b, text), want);
  }

  private static void queries() {
    MessengerBoard b = fiveOrders();
    b.send(2, 5, 2);
    b.send(2, 6, 2);
    b.pass(1);
    // Orders: 0 done; 1 and 2 for unit 1 on their way; 3 replaced by 4 for unit 2.
    asked(b, "many order=order", 5);
    asked(b, "many state=0", 2);
    asked(b, "many state=2", 1);
    asked(b, "first state=0", 1);
    asked(b, "first state=6", 3);
    asked(b, "first state=1", 4);
    asked(b, "first state=5", -1);
    asked(b, "many state=5", 0);
    asked(b, "many unit=1", 2);
    asked(b, "many sent=3", 2);
    asked(b, "many sent>3", 2);
    asked(b, "many arrived=0", 2);
    asked(b, "many arrived=1", 1);
    asked(b, "many arrived=5", 2);
    asked(b, "many ended=0", 3);
    asked(b, "first ended=1", 0);
    asked(b, "first ended=5", 3);
    asked(b, "many steps=4", 2);
    asked(b, "many steps=2", 3);
    asked(b, "many x=8", 1);
    asked(b, "first x=7", 2);
    asked(b, "many y=2", 2);
    asked(b, "many y<x", 5);
    asked(b, "first 3<order", 4);
    asked(b, "many 1=1", 5);
    asked(b, "many 1>1", 0);
    asked(b, "many 9999>order", 5);
    Check.load(b, "board 3 3;unit 0 0 1;");
    asked(b, "many order=order", 0);
    asked(b, "first order=order", -1);
  }

  private static void queryGrammar() {
    MessengerBoard b = fiveOrders();
    asked(b, "many order=0 or order=1 or order=2", 3);
    asked(b, "many order=0 or order=1 and order=2", 1);
    asked(b, "many (order=0 or order=1) and order=1", 1);
    asked(b, "many not order=0 and order=1", 1);
    asked(b, "many not (order=0 and order=1)", 3);
    asked(b, "many not not order=0", 1);
    asked(b, "many not order=0 or order=0", 3);
    asked(b, "first not order<2", 2);
    asked(b, "many\norder\n<\n002", 2);
    asked(b, "manyorder<2", -1000000001);
    asked(b, "many order<2or order=2", 3);
  }

  private static void queryError(String text, int code, int position) {
    MessengerBoard b = fiveOrders();
    Check.due("query \"" + text + "\"", () -> Check.query(b, text), -1000000000 - code);
    Check.due("position in \"" + text + "\"", b::errorPosition, position);
    Check.due("the buffer is empty after \"" + text + "\"", () -> b.feed(0, 0, 0, 0, 0), 20);
  }

  private static void queryErrors() {
    queryError("", 1, 0);
    queryError("all x=1", 1, 0);
    queryError("many", 1, 4);
    queryError("many x", 1, 6);
    queryError("many x=", 1, 7);
    queryError("many x=y=x", 1, 8);
    queryError("many x==y", 1, 7);
    queryError("many x!y", 1, 6);
    queryError("many z=1", 1, 5);
    queryError("many goal=1", 1, 5);
    queryError("many x=10000", 2, 7);
    queryError("many 10000=x", 2, 5);
    queryError("many 99999999999999999999=x", 2, 5);
    queryError("many x=1 10000", 1, 9);
    queryError("many x 10000", 1, 7);
    queryError("many (x=1", 1, 9);
    queryError("many x=1)", 1, 8);
    queryError("many ()", 1, 6);
    queryError("many x=1 or", 1, 11);
    queryError("many x=1 and or y=1", 1, 13);
    queryError("many x=1 not y=1", 1, 9);
    queryError("many (not)", 1, 9);
    queryError("many x=1;", 1, 8);
  }

  private static void queryDepth() {
    MessengerBoard b = fiveOrders();
    asked(b, "many " + "(".repeat(6) + "x=x" + ")".repeat(6), 3);
    asked(b, "many " + "not ".repeat(6) + "x=x", 3);
    asked(b, "many not(not(not(x=x)))", 0);
    asked(b, "many " + "((((((x=x)))))) and ".repeat(3) + "not not not not not not x=x", 3);
    asked(b, "many not not (x=x and not (not y=9 or x=x) or not not not x=x)", 0);
    queryError("many " + "(".repeat(7) + "x=x" + ")".repeat(7), 3, 11);
    queryError("many " + "not ".repeat(7) + "x=x", 3, 29);
    queryError("many not(not(not((", 3, 17);
    queryError("many not(not(not(", 1, 17);
    queryError("many not(not(not(not", 3, 17);
    queryError("many x=x (((((((", 1, 9);
    queryError("many ((((((x=x not", 1, 15);
  }

  private static void queryLengths() {
    MessengerBoard b = fiveOrders();
    Check.illegal("query(-1)", () -> b.query(-1));
    Check.illegal("query(1) of an empty buffer", () -> b.query(1));
    String text = "many x=x" + " ".repeat(192);
    Check.due("a query of 200 bytes", () -> Check.query(b, text), 3);
    Check.feed(b, text + "          ");
    Check.illegal("query(201)", () -> b.query(201));
    Check.due("keeps the buffer", () -> b.query(200), 3);
    Check.due("and reads only what it should", () -> {
      Check.feed(b, "many order<22");
      return b.query(12);
    }, 2);
    Check.due("a query is no operation", b::undoCount, 6);
  }
}
