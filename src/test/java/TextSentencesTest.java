import java.util.ArrayList;
import java.util.List;
import java.util.regex.Matcher;
import java.util.regex.Pattern;

/** A test of its own for each sentence of "Input text" and of promises 1 to 4 and 37 that names a boundary. */
public final class TextSentencesTest {
  private static final String WHOLE = "board 12 11;wall 1 1;headquarters 2 2;unit 3 3 1;picket 4 4 3 20 0 19;"
      + "patience 30;plan 0 5 5 499;";
  /** The least and the greatest of each number of WHOLE. */
  private static final int[][] NUMBERS = {{3, 12}, {3, 12}, {0, 11}, {0, 10}, {0, 11}, {0, 10}, {0, 11}, {0, 10}, {1, 3},
      {0, 11}, {0, 10}, {0, 3}, {1, 20}, {0, 19}, {0, 19}, {1, 30}, {0, 0}, {0, 11}, {0, 10}, {0, 499}};
  private static final String QUESTION = "many not (order<5 and unit=0 or state>9999) or 0=sent and arrived<ended or "
      + "steps=x and not y>y";
  private static final String SIX_UNITS = "board 9 9;" + "unit 0 0 1;".repeat(6);
  private static final String FOUR_PICKETS = "board 9 9;" + "picket 0 0 0 1 0 0;".repeat(4);
  private static final String TWENTY_PLANS = "board 9 9;unit 0 0 1;" + "plan 0 1 1 9;".repeat(20);

  private TextSentencesTest() {
  }

  public static void main(String[] args) {
    tokens();
    grammars();
    errorCodes();
    newObject();
    feeding();
    loading();
    errorPositions();
    querying();
    Check.end();
  }

  private static void tokens() {
    Check.sentence("a word is a maximal run of the letters 'a' to 'z'", TextSentencesTest::words);
    Check.sentence("a number is a maximal run of decimal digits (leading zeros are allowed)", TextSentencesTest::numbers);
    Check.sentence("every other byte except space (32) and line feed (10) is a token by itself", TextSentencesTest::signs);
    Check.sentence("Spaces and line feeds may appear before, between and behind tokens.", TextSentencesTest::blanks);
  }

  private static void grammars() {
    Check.sentence("text: 'board' width height ';' clause*", TextSentencesTest::noClause);
    Check.sentence("clause: 'wall' X Y ';' | 'headquarters' X Y ';' | 'unit' X Y pace ';'", TextSentencesTest::clauses);
    Check.sentence("query: ('many' | 'first') test", TextSentencesTest::manyOrFirst);
    Check.sentence("test: conjunction ('or' conjunction)*. conjunction: factor ('and' factor)*.",
        TextSentencesTest::conjunctions);
    Check.sentence("factor: 'not' factor | '(' test ')' | value ('<' | '=' | '>') value.", TextSentencesTest::factors);
    Check.sentence("value: a number from 0 to 9999", TextSentencesTest::values);
    Check.sentence("or one of these properties of an order", TextSentencesTest::properties);
    Check.sentence("'arrived' (1 plus the turn on which it arrived, 0 if it did not)", TextSentencesTest::arrivals);
    Check.sentence("'ended' (1 plus the turn of its end, 0 before)", TextSentencesTest::ends);
    Check.sentence("X and Y are numbers of columns and rows, UNIT that of a unit told ahead of it",
        TextSentencesTest::columnsRowsUnits);
    Check.sentence("first and last are 0 to the period less 1, the turn of a plan 0 to 499",
        TextSentencesTest::firstLastTurn);
    Check.sentence("The headquarters are in cell 0 0 as long as they are not told (a wall cannot be told there then)",
        TextSentencesTest::untoldHeadquarters);
    Check.sentence("patience is 30 if it is not told", TextSentencesTest::untoldPatience);
    Check.sentence("of several ones the last one counts", TextSentencesTest::lastOneCounts);
  }

  private static void errorCodes() {
    Check.sentence("the first token with an error determines the result", TextSentencesTest::firstError);
    Check.sentence("If several codes apply to one token, the smallest one counts.", TextSentencesTest::smallestCode);
    Check.sentence("1: the token is not allowed here", TextSentencesTest::notAllowed);
    Check.sentence("or the text ends too early (the position is then the length of the text)", TextSentencesTest::tooEarly);
    Check.sentence("2: where a number can stand, a number that is out of range.", TextSentencesTest::outOfRange);
    Check.sentence("3: the keyword of the 7th unit", () -> full(SIX_UNITS, "unit", 6));
    Check.sentence("the 5th picket", () -> full(FOUR_PICKETS, "picket", 0));
    Check.sentence("or the 21st plan", () -> full(TWENTY_PLANS, "plan", 1));
    Check.sentence("a 'not' or '(' that would be the seventh one open at the same time", TextSentencesTest::seventhOpen);
    Check.sentence("A 'not' is open until the end of its factor.", TextSentencesTest::openNots);
    Check.sentence("4: the Y of a wall if the cell is a wall already", TextSentencesTest::wallOnWall);
    Check.sentence("or the headquarters (as told so far) or a unit are in it", TextSentencesTest::wallOnOthers);
    Check.sentence("the Y of a headquarters, a unit or a plan if the cell is a wall", TextSentencesTest::othersOnWall);
    Check.sentence("the last number of a picket if it is less than the first one", TextSentencesTest::lastBelowFirst);
  }

  private static void newObject() {
    Check.sentence("Creates a board as by the text \"board 3 3;\".", TextSentencesTest::asByText);
  }

  private static void feeding() {
    Check.sentence("the four bytes of each parameter, the most significant byte first", TextSentencesTest::fedBytes);
    Check.sentence("Returns the number of bytes in the buffer", TextSentencesTest::fedNumbers);
    Check.sentence("NONE if it would exceed 600, and then nothing is appended", TextSentencesTest::fedTooMany);
  }

  private static void loading() {
    Check.sentence("Reads the first bytes of the buffer as a text", TextSentencesTest::firstBytes);
    Check.sentence("which replaces everything (the present turn is 0, there are no orders and no events)",
        TextSentencesTest::replacesEverything);
    Check.sentence("the undo history and the snapshot are discarded", TextSentencesTest::discards);
    Check.sentence("The buffer is empty afterwards, also after an error.", TextSentencesTest::emptyAfterLoad);
    Check.sentence("Returns the number of units", TextSentencesTest::unitsLoaded);
    Check.sentence("-10 minus the error code if the text has an error (then only the buffer and the error position change)",
        TextSentencesTest::failedLoad);
    Check.sentence("if length is negative or greater than the number of bytes in the buffer (nothing changes)",
        TextSentencesTest::refusedLoad);
  }

  private static void errorPositions() {
    Check.sentence("Returns the position of the first byte of the token with the error", TextSentencesTest::firstByte);
    Check.sentence("for the most recent call of load or query that read the buffer", TextSentencesTest::mostRecentCall);
    Check.sentence("NONE if that text had no error, or if there was no such call", TextSentencesTest::noPosition);
  }

  private static void querying() {
    Check.sentence("Reads the first bytes of the buffer as a query", TextSentencesTest::firstBytesOfQuery);
    Check.sentence("evaluates it for every order in ascending order. The buffer is empty afterwards, also after an error.",
        TextSentencesTest::emptyAfterQuery);
    Check.sentence("number of bytes to read, at most 200", TextSentencesTest::longestQuery);
    Check.sentence("Returns for 'many' the number of orders for which the test holds", TextSentencesTest::many);
    Check.sentence("for 'first' the smallest such order, or NONE", TextSentencesTest::first);
    Check.sentence("HIDDEN minus the error code if the text has an error", TextSentencesTest::failedQuery);
    Check.sentence("if length is negative, greater than 200, or greater than the number of bytes in the buffer (nothing "
        + "changes)", TextSentencesTest::refusedQuery);
  }

  /** Where the tokens of a text begin; behind them where the last one ends. */
  private static List<Integer> starts(String text) {
    List<Integer> starts = new ArrayList<>();
    Matcher token = Pattern.compile("[a-z]+|[0-9]+|[^ \\n]").matcher(text);
    while (token.find()) {
      starts.add(token.start());
    }
    return starts;
  }

  private static int endOf(String text, int start) {
    Matcher token = Pattern.compile("[a-z]+|[0-9]+|[^ \\n]").matcher(text);
    return token.find(start) ? token.end() : text.length();
  }

  private static String replaced(String text, int start, String token) {
    return text.substring(0, start) + token + text.substring(endOf(text, start));
  }

  private static void words() {
    Check.badText("`board 3 3;", 1, 0);
    Check.badText("{board 3 3;", 1, 0);
    Check.badText("boardz 3 3;", 1, 0);
    Check.badText("boar d 3 3;", 1, 0);
    Check.badText("boarD 3 3;", 1, 0);
    Check.badText("aboard 3 3;", 1, 0);
    Check.badText("board 3 3;walla1 1;", 1, 10);
    Check.badText("board 3 3;wall`1 1;", 1, 14);
    Check.badText("board 3 3;wall{1 1;", 1, 14);
    Check.badText("board 3 3;" + "w".repeat(590), 1, 10);
    Check.due("a digit ends a word", () -> Check.load(new MessengerBoard(), "board3 3;unit1 1 1;"), 1);
    Check.due("so does the sign behind it", () -> Check.query(new MessengerBoard(), "many(x<y)"), 0);
  }

  private static void numbers() {
    MessengerBoard b = Check.boardOf("board 0012 " + "0".repeat(400) + "3;patience 007;unit 00 0 01;");
    Check.row("size", b::size, 12, 3, 1);
    Check.due("patience", () -> b.size(9), 7);
    Check.badText("board 3 3;patience 1 1;", 1, 21);
    Check.badText("board 3 3;patience /1;", 1, 19);
    Check.badText("board 3 3;patience 1:;", 1, 20);
    Check.badText("board 3 3;patience -1;", 1, 19);
    Check.badText("board 3 3;patience 1.0;", 1, 20);
    Check.badText("board " + "9".repeat(594), 2, 6);
    Check.badText("board 3 3;patience " + "0".repeat(300) + "31;", 2, 19);
    Check.due("a letter ends a number", () -> Check.load(new MessengerBoard(), "board 3 3;unit 0 0 1;wall 1 1;"), 1);
    Check.asked(new MessengerBoard(), "many 1=1or 2=2and 3=3", 0);
  }

  private static void signs() {
    for (int value = 0; value < 256; value++) {
      String text = "board 3 3;" + (char) value;
      if (value == ' ' || value == '\n') {
        Check.due("byte " + value, () -> Check.load(new MessengerBoard(), text), 0);
      } else {
        Check.badText(text, 1, 10);
      }
      String between = "board 3" + (char) value + "3;";
      if (value == ' ' || value == '\n') {
        Check.due("between: byte " + value, () -> Check.load(new MessengerBoard(), between), 0);
      } else if (value < '0' || value > '9') {
        Check.badText(between, 1, 7);
      }
      boolean letter = value >= 'a' && value <= 'z';
      if (letter) {
        Check.badText("board 3 3;wall" + (char) value + "1 1;", 1, 10);
      } else if (value != ' ' && value != '\n' && (value < '0' || value > '9')) {
        Check.badText("board 3 3;wall" + (char) value + "1 1;", 1, 14);
      }
    }
    Check.badText("board 3 3;;", 1, 10);
    Check.badText("board 3 3;wall 1 1;;", 1, 19);
    MessengerBoard b = new MessengerBoard();
    Check.badQuery(b, "many x==y", 1, 7);
    Check.badQuery(b, "many x<=y", 1, 7);
    Check.badQuery(b, "many x<>y", 1, 7);
    Check.badQuery(b, "many x\ty", 1, 6);
    Check.badQuery(b, "many x\u00bdy", 1, 6);
  }

  private static void blanks() {
    Check.due("many of them", () -> Check.load(new MessengerBoard(),
        " \n\n board \n 3\n\n3  ;  \n unit\n0\n0\n1\n;\n\n wall 1 1 ; \n"), 1);
    Check.due("none", () -> Check.load(new MessengerBoard(), "board3 3;unit0 0 1;wall1 1;"), 1);
    Check.due("580 of them", () -> Check.load(new MessengerBoard(), " ".repeat(580) + "board\n3\n3;"), 0);
    Check.due("and behind", () -> Check.load(new MessengerBoard(), "board\n3\n3;" + "\n".repeat(590)), 0);
    Check.badText("board 3 3;wal l 1 1;", 1, 10);
    MessengerBoard b = new MessengerBoard();
    Check.asked(b, " \n many \n ( \n x \n < \n y \n ) \n ", 0);
    Check.asked(b, "many(x<y)or(x>y)and(1=1)", 0);
  }

  private static void noClause() {
    MessengerBoard b = Check.boardOf("board 5 4;");
    Check.row("size", b::size, 5, 4, 0, 0, 0, 0, 0, 0, 0, 30, 0, 0);
    Check.badText("board 5 4", 1, 9);
    Check.badText("board 5;", 1, 7);
    Check.badText("board 5 4 3;", 1, 10);
    Check.badText("", 1, 0);
    Check.badText("wall 1 1;", 1, 0);
    Check.badText("board 5 4;board 5 4;", 1, 10);
  }

  private static void clauses() {
    MessengerBoard b = new MessengerBoard();
    Check.due("all of them", () -> Check.load(b, WHOLE), 1);
    Check.row("size", b::size, 12, 11, 1, 1, 0, 0, 1, 0, 1, 30, 2, 2);
    Check.row("unit", what -> b.unit(0, what), 3, 3, 1);
    Check.row("picket", what -> b.picket(0, what), 4, 4, 3, 20, 0, 19);
    Check.row("plan", what -> b.plan(0, what), 0, 5, 5, 499);
    for (int start : starts(WHOLE)) {
      if (WHOLE.charAt(start) == ';') {
        Check.badText(replaced(WHOLE, start, " 7;"), 1, start + 1);
        Check.badText(replaced(WHOLE, start, ";;"), 1, start + 1);
        Check.badText(replaced(WHOLE, start, ","), 1, start);
      }
    }
  }

  /** Orders 0 and 2 are for unit 0, 1 and 3 for unit 1; 0 is done, 2 obeyed, 1 and 3 are on their way. */
  private static MessengerBoard fourOrders() {
    MessengerBoard b = Check.boardOf("board 9 3;unit 2 0 3;unit 8 2 3;");
    b.pass(1);
    b.send(0, 2, 0);
    b.send(1, 7, 1);
    b.pass(1);
    b.send(0, 3, 1);
    b.pass(1);
    b.send(1, 0, 2);
    return b;
  }

  private static void manyOrFirst() {
    MessengerBoard b = fourOrders();
    Check.asked(b, "many order=order", 4);
    Check.asked(b, "first order=order", 0);
    Check.badQuery(b, "all order=order", 1, 0);
    Check.badQuery(b, "order=order", 1, 0);
    Check.badQuery(b, "many first order=order", 1, 5);
    Check.badQuery(b, "many", 1, 4);
    Check.badQuery(b, "", 1, 0);
  }

  private static void conjunctions() {
    MessengerBoard b = fourOrders();
    Check.asked(b, "many order=0 or order=1 or order=3", 3);
    Check.asked(b, "many order>0 and order<3 and unit=1", 1);
    Check.asked(b, "many order=0 or order=1 and unit=0", 1);
    Check.asked(b, "many order=1 and unit=0 or order=0", 1);
    Check.asked(b, "many unit=0 and order=0 or unit=1 and order=3", 2);
    Check.badQuery(b, "many x=1 or or y=1", 1, 12);
    Check.badQuery(b, "many and y=1", 1, 5);
    Check.badQuery(b, "many x=1 y=1", 1, 9);
    StringBuilder longest = new StringBuilder("many 1>1");
    while (longest.length() < 192) {
      longest.append("or 1=1");
    }
    Check.asked(b, longest.toString(), 4);
    Check.asked(b, longest.toString().replace("or 1=1", "and 1=1").substring(0, 197), 0);
  }

  private static void factors() {
    MessengerBoard b = fourOrders();
    Check.asked(b, "many not order=0", 3);
    Check.asked(b, "many not order=0 and order<2", 1);
    Check.asked(b, "many not (order=0 or order=1)", 2);
    Check.asked(b, "many not not order=0", 1);
    Check.asked(b, "many (order=0 or order=1) and unit=1", 1);
    Check.asked(b, "many ((order=0))", 1);
    Check.asked(b, "many order<2", 2);
    Check.asked(b, "many order=2", 1);
    Check.asked(b, "many order>2", 1);
    Check.asked(b, "many 2<order", 1);
    Check.asked(b, "many 1<1 or 1>1", 0);
    Check.badQuery(b, "many (order=0", 1, 13);
    Check.badQuery(b, "many order=0)", 1, 12);
    Check.badQuery(b, "many ()", 1, 6);
    Check.badQuery(b, "many order", 1, 10);
    Check.badQuery(b, "many (order)=0", 1, 11);
    Check.badQuery(b, "many order=0=0", 1, 12);
    Check.badQuery(b, "many order=not 0", 1, 11);
    Check.badQuery(b, "many not", 1, 8);
  }

  private static void values() {
    MessengerBoard b = fourOrders();
    Check.asked(b, "many order>0", 3);
    Check.asked(b, "many order<9999", 4);
    Check.asked(b, "many 9999=9999", 4);
    Check.asked(b, "many 9999>9998", 4);
    Check.asked(b, "many 0<0", 0);
    Check.asked(b, "many order=0000000000000000000000000000002", 1);
    Check.badQuery(b, "many 10000=10000", 2, 5);
    Check.badQuery(b, "many x=10000", 2, 7);
    Check.badQuery(b, "many x=4294967296", 2, 7);
    Check.badQuery(b, "many x=" + "9".repeat(190), 2, 7);
    Check.badQuery(b, "many x=-1", 1, 7);
    Check.badQuery(b, "many z=1", 1, 5);
    Check.badQuery(b, "many orders=1", 1, 5);
  }

  private static void properties() {
    MessengerBoard b = fourOrders();
    String[] names = {"order", "unit", "state", "sent", "arrived", "ended", "steps", "x", "y"};
    int[][] due = {{0, 1, 2, 3}, {0, 1, 0, 1}, {2, 0, 1, 0}, {1, 1, 2, 3}, {2, 0, 3, 0}, {2, 0, 0, 0}, {2, 4, 2, 0},
        {2, 7, 3, 0}, {0, 1, 1, 2}};
    for (int name = 0; name < names.length; name++) {
      for (int order = 0; order < 4; order++) {
        Check.asked(b, "first " + order + "=order and " + names[name] + "=" + due[name][order], order);
      }
    }
    Check.asked(b, "many x>y", 3);
    Check.asked(b, "many sent=order", 3);
    for (String name : List.of("goal", "turn", "many", "and", "xy", "unit0")) {
      Check.badQuery(b, "many " + name + "=1", 1, name.equals("unit0") ? 9 : 5);
    }
  }

  private static void arrivals() {
    MessengerBoard b = Check.boardOf("board 9 3;unit 2 0 3;unit 8 2 3;picket 8 0 0 1 0 0;");
    b.send(0, 5, 0);
    b.send(1, 5, 0);
    b.pass(1);
    Check.asked(b, "many arrived=1", 1);
    Check.asked(b, "first arrived=0", 1);
    b.pass(3);
    Check.asked(b, "many arrived=0 and state=5", 1);
  }

  private static void ends() {
    MessengerBoard b = Check.boardOf("board 9 3;unit 2 0 3;unit 8 2 3;");
    b.send(0, 2, 0);
    b.send(1, 5, 0);
    b.pass(1);
    Check.asked(b, "many ended=1", 1);
    Check.asked(b, "first ended=0", 1);
    b.pass(4);
    Check.asked(b, "many ended=0 and state=1", 1);
  }

  private static void columnsRowsUnits() {
    String text = "board 4 7;unit 3 6 1;";
    Check.due("the last column and row", () -> Check.load(new MessengerBoard(), text + "plan 0 3 6 0;"), 1);
    Check.badText("board 4 7;unit 4 6 1;", 2, 15);
    Check.badText("board 4 7;unit 3 7 1;", 2, 17);
    Check.badText("board 4 7;plan 0 0 0 0;unit 0 0 1;", 2, 15);
    Check.badText(text + "plan 1 0 0 0;unit 0 0 1;", 2, text.length() + 5);
    Check.due("told ahead", () -> Check.load(new MessengerBoard(), text + "unit 0 0 1;plan 1 0 0 0;"), 2);
  }

  private static void firstLastTurn() {
    MessengerBoard b = Check.boardOf("board 3 3;unit 0 0 1;picket 0 0 0 7 6 6;picket 0 0 0 7 0 0;plan 0 0 0 0;"
        + "plan 0 0 0 499;");
    Check.row("picket 0", what -> b.picket(0, what), 0, 0, 0, 7, 6, 6);
    Check.row("turn of plan", plan -> b.plan(plan, 3), 0, 499);
    Check.badText("board 3 3;picket 0 0 0 7 7 7;", 2, 25);
    Check.badText("board 3 3;picket 0 0 0 7 6 7;", 2, 27);
    Check.badText("board 3 3;unit 0 0 1;plan 0 0 0 500;", 2, 32);
  }

  private static void untoldHeadquarters() {
    MessengerBoard b = Check.boardOf("board 3 3;wall 1 1;");
    Check.due("x", () -> b.size(10), 0);
    Check.due("y", () -> b.size(11), 0);
    Check.badText("board 3 3;wall 0 0;", 4, 17);
    Check.badText("board 3 3;wall 0 0;headquarters 1 1;", 4, 17);
    Check.due("when they are told elsewhere", () -> Check.load(new MessengerBoard(),
        "board 3 3;headquarters 1 1;wall 0 0;"), 0);
    MessengerBoard old = Check.boardOf("board 3 3;headquarters 2 2;");
    Check.load(old, "board 3 3;");
    Check.due("not where an earlier text had them", () -> old.size(10), 0);
  }

  private static void untoldPatience() {
    Check.due("untold", () -> Check.boardOf("board 3 3;").size(9), 30);
    MessengerBoard old = Check.boardOf("board 3 3;patience 4;");
    old.setPatience(5);
    Check.load(old, "board 3 3;");
    Check.due("not what it was", () -> old.size(9), 30);
  }

  private static void lastOneCounts() {
    MessengerBoard b = Check.boardOf("board 4 4;headquarters 1 1;patience 4;headquarters 2 2;patience 9;wall 1 1;"
        + "headquarters 3 2;patience 2;wall 2 2;");
    Check.due("x", () -> b.size(10), 3);
    Check.due("y", () -> b.size(11), 2);
    Check.due("patience", () -> b.size(9), 2);
    Check.due("walls where they were", () -> b.size(6), 2);
  }

  private static void firstError() {
    Check.badText("board 3 99;wall 9 9", 2, 8);
    Check.badText("board 3 3;wall 0 0;oops", 4, 17);
    Check.badText("board 3 3;oops;wall 0 0;", 1, 10);
    Check.badText("board 3 3;wall 3 0", 2, 15);
    Check.badText("board 3 3;picket 0 0 0 9 5 4 oops", 4, 27);
    MessengerBoard b = new MessengerBoard();
    Check.badQuery(b, "many 10000=x oops", 2, 5);
    Check.badQuery(b, "many x oops 10000", 1, 7);
    Check.badQuery(b, "many (((((((x oops", 3, 11);
  }

  private static void smallestCode() {
    Check.badText(SIX_UNITS.substring(0, SIX_UNITS.length() - 1) + " unit 0 0 1;", 1, SIX_UNITS.length());
    Check.badText(SIX_UNITS + "headquarters unit", 1, SIX_UNITS.length() + 13);
    Check.badText(FOUR_PICKETS.substring(0, FOUR_PICKETS.length() - 1) + " picket", 1, FOUR_PICKETS.length());
    Check.badText(TWENTY_PLANS.substring(0, TWENTY_PLANS.length() - 1) + " plan", 1, TWENTY_PLANS.length());
    MessengerBoard b = new MessengerBoard();
    Check.badQuery(b, "many ((((((x not", 1, 13);
    Check.badQuery(b, "many ((((((x=x (", 1, 15);
    Check.badQuery(b, "many ((((((x=(", 1, 13);
    Check.badQuery(b, "many ((((((x=x)))))) 10000", 1, 21);
  }

  private static void notAllowed() {
    for (int start : starts(WHOLE)) {
      Check.badText(replaced(WHOLE, start, "?"), 1, start);
      boolean number = Character.isDigit(WHOLE.charAt(start));
      Check.badText(replaced(WHOLE, start, number ? " z " : " 7 "), 1, start + 1);
    }
    MessengerBoard b = new MessengerBoard();
    for (int start : starts(QUESTION)) {
      Check.badQuery(b, replaced(QUESTION, start, "?"), 1, start);
    }
    MessengerBoard other = new MessengerBoard();
    for (int start : starts(QUESTION)) {
      Check.badQuery(other, replaced(QUESTION, start, start == 0 ? " order " : " many "), 1, start + 1);
    }
  }

  private static void tooEarly() {
    for (int start : starts(WHOLE)) {
      String cut = WHOLE.substring(0, endOf(WHOLE, start));
      if (cut.endsWith(";")) {
        Check.due("load \"" + cut + "\"", () -> Check.load(new MessengerBoard(), cut), cut.contains("unit") ? 1 : 0);
      } else {
        Check.badText(cut, 1, cut.length());
        Check.badText(cut + " \n ", 1, cut.length() + 3);
      }
    }
    Check.badText(" ".repeat(600), 1, 600);
    for (String word : List.of("wall", "headquarters", "unit", "picket", "patience", "plan")) {
      Check.badText("board 3 3;" + " ".repeat(590 - word.length()) + word, 1, 600);
    }
    Check.badText("board 3 3;" + " ".repeat(584) + "wall 1", 1, 600);
    Check.badText(" ".repeat(595) + "board", 1, 600);
    MessengerBoard b = new MessengerBoard();
    String before = "";
    int open = 0;
    for (int start : starts(QUESTION)) {
      String cut = QUESTION.substring(0, endOf(QUESTION, start));
      String token = QUESTION.substring(start, cut.length());
      open += token.equals("(") ? 1 : token.equals(")") ? -1 : 0;
      if (open == 0 && (token.equals(")") || "<=>".contains(before)) && !before.isEmpty()) {
        Check.asked(b, cut, 0);
      } else {
        Check.badQuery(b, cut, 1, cut.length());
      }
      before = token;
    }
    Check.badQuery(b, " ".repeat(200), 1, 200);
  }

  private static void outOfRange() {
    int place = 0;
    for (int start : starts(WHOLE)) {
      if (!Character.isDigit(WHOLE.charAt(start))) {
        continue;
      }
      int least = NUMBERS[place][0];
      int greatest = NUMBERS[place][1];
      place++;
      Check.badText(replaced(WHOLE, start, String.valueOf(greatest + 1)), 2, start);
      Check.badText(replaced(WHOLE, start, String.valueOf((1L << 32) + greatest)), 2, start);
      Check.badText(replaced(WHOLE, start, "1844674407370955" + (1616 + greatest)), 2, start);
      if (least > 0) {
        Check.badText(replaced(WHOLE, start, String.valueOf(least - 1)), 2, start);
      }
      for (int number : new int[] {least, greatest}) {
        MessengerBoard b = new MessengerBoard();
        Check.load(b, replaced(WHOLE, start, String.valueOf(number)));
        int at = b.errorPosition();
        Check.due(number + " is in range at " + start, () -> at == -1 || at > start, true);
      }
    }
    Check.due("all numbers", () -> NUMBERS.length, place);
    Check.badText("board 3 3 9999;", 1, 10);
    Check.badText("board 3 3;9999", 1, 10);
  }

  /** With as many as there can be, the keyword of one more is the error. */
  private static void full(String text, String keyword, int units) {
    Check.due("as many as there can be", () -> Check.load(new MessengerBoard(), text), units);
    Check.badText(text + keyword, 3, text.length());
    Check.badText(text + "patience 3;" + keyword + " 99 99 99;", 3, text.length() + 11);
    Check.badText(text + keyword + "s", 1, text.length());
    MessengerBoard b = new MessengerBoard();
    Check.load(b, text);
    Check.due("counted anew with each text", () -> Check.load(b, text), units);
  }

  private static void seventhOpen() {
    MessengerBoard b = fourOrders();
    Check.asked(b, "many ((((((x=x))))))", 4);
    Check.asked(b, "many not not not not not not x=x", 4);
    Check.badQuery(b, "many (((((((x=x)))))))", 3, 11);
    Check.badQuery(b, "many not not not not not not not x=x", 3, 29);
    Check.badQuery(b, "many not not not not not not (x=x)", 3, 29);
    Check.badQuery(b, "many ((((((not x=x))))))", 3, 11);
    Check.badQuery(b, "many (((((((", 3, 11);
    String closed = "many ((((((x=x)or(x=x)and(x=x" + ")".repeat(6) + " or ";
    Check.badQuery(b, closed + "(((((((", 3, closed.length() + 6);
    Check.asked(b, closed + "((((((x=x))))))", 4);
    Check.asked(b, "many ((((((x=x)or(x=x)))))) and ((((((x=x)and(y=y))))))", 4);
  }

  private static void openNots() {
    MessengerBoard b = fourOrders();
    Check.asked(b, "many not not not not not not x=x and not not not not not not x=x", 4);
    Check.asked(b, "many (not x=x or not x=x or not not not not not x=x)", 0);
    Check.badQuery(b, "many (not not not not not not x=x)", 3, 26);
    Check.asked(b, "many not(not(not(x=x)))", 0);
    Check.badQuery(b, "many not(not(not(not x=x)))", 3, 17);
    Check.badQuery(b, "many not(not(not((x=x))))", 3, 17);
    Check.asked(b, "many not(not(not(x=x)))or not(not(((x=x))))", 4);
    Check.badQuery(b, "many not(x=x and not not not not not x=x)", 3, 33);
    Check.asked(b, "many not(x=x and not not not not x=x)", 0);
  }

  private static void wallOnWall() {
    Check.badText("board 3 3;wall 1 2;wall 1 2;", 4, 26);
    Check.badText("board 3 3;wall 1 2;wall 2 1;wall 2 2;wall 1 2;", 4, 44);
    Check.due("other cells", () -> Check.load(new MessengerBoard(), "board 3 3;wall 1 2;wall 2 1;wall 2 2;"), 0);
    Check.badText("board 12 12;wall 11 11;wall 11 11;", 4, 31);
  }

  private static void wallOnOthers() {
    Check.badText("board 3 3;headquarters 1 2;wall 1 2;", 4, 34);
    Check.badText("board 3 3;headquarters 1 2;headquarters 0 1;wall 0 1;", 4, 51);
    Check.due("where they were told before", () -> Check.load(new MessengerBoard(),
        "board 3 3;headquarters 1 2;headquarters 0 1;wall 1 2;wall 0 0;"), 0);
    Check.badText("board 3 3;unit 1 2 1;wall 1 2;", 4, 28);
    Check.badText("board 3 3;unit 1 2 1;unit 2 1 1;wall 1 2;", 4, 39);
    Check.due("a picket and a goal do not matter", () -> Check.load(new MessengerBoard(),
        "board 3 3;unit 0 0 1;picket 1 2 0 1 0 0;plan 0 1 2 5;wall 1 2;"), 1);
  }

  private static void othersOnWall() {
    Check.badText("board 3 3;wall 1 2;headquarters 1 2;", 4, 34);
    Check.badText("board 3 3;wall 1 2;unit 1 2 1;", 4, 26);
    Check.badText("board 3 3;unit 0 0 1;wall 1 2;plan 0 1 2 5;", 4, 39);
    Check.due("a picket does not matter", () -> Check.load(new MessengerBoard(),
        "board 3 3;wall 1 2;picket 1 2 0 1 0 0;"), 0);
    Check.due("beside it", () -> Check.load(new MessengerBoard(),
        "board 3 3;wall 1 2;headquarters 2 1;unit 0 2 1;plan 0 1 1 0;"), 1);
  }

  private static void lastBelowFirst() {
    Check.badText("board 3 3;picket 0 0 0 20 19 18;", 4, 29);
    Check.badText("board 3 3;picket 0 0 0 2 1 0;", 4, 27);
    MessengerBoard b = Check.boardOf("board 3 3;picket 0 0 0 20 18 18;picket 0 0 0 2 0 1;");
    Check.due("the same", () -> b.picket(0, 5), 18);
    Check.due("more", () -> b.picket(1, 5), 1);
  }

  private static void asByText() {
    MessengerBoard made = new MessengerBoard();
    MessengerBoard loaded = Check.boardOf("board 3 3;");
    for (int what = 0; what < 12; what++) {
      int asked = what;
      Check.due("size " + what, () -> made.size(asked), loaded.size(what));
    }
    Check.row("size", made::size, 3, 3, 0, 0, 0, 0, 0, 0, 0, 30, 0, 0);
    Check.due("its first row", () -> Check.rowOf(made, 0), "h..");
    Check.due("its last row", () -> Check.rowOf(made, 2), "...");
    Check.due("nothing to undo", made::undoCount, 0);
    Check.due("no snapshot", made::restoreSnapshot, false);
    Check.noSuch("no cell beyond", () -> made.isWall(3, 0));
    Check.due("mean delay", made::meanDelay, 0.0);
    Check.due("success", made::success, 0.0f);
    Check.due("crossed", made::crossed, 0);
    Check.due("failing", () -> made.failing(60), 0);
    Check.due("orders", () -> made.orders(0), 0);
    Check.noSuch("no unit to send", () -> made.send(0, 0, 0));
    Check.due("turns pass", () -> made.pass(60), 0);
  }

  private static void fedBytes() {
    MessengerBoard b = new MessengerBoard();
    b.feed(0x626f6172, 0x64203320, 0x343bff7f, 0x80000102, 0x03040506);
    Check.due("the first words", () -> b.load(10), 0);
    Check.due("a byte of 255", () -> {
      b.feed(0x626f6172, 0x64203320, 0x343bff20, 0, 0);
      return b.load(11) * 100 + b.errorPosition();
    }, -1090);
    String[] letters = {"abcd", "efgh", "ijkl", "mnop", "qrst"};
    for (int word = 0; word < 5; word++) {
      int[] words = {0x20202020, 0x20202020, 0x20202020, 0x20202020, 0x20202020};
      for (int letter = 0; letter < 4; letter++) {
        int shift = 24 - 8 * letter;
        int[] fed = words.clone();
        fed[word] = fed[word] & ~(255 << shift) | letters[word].charAt(letter) << shift;
        MessengerBoard one = new MessengerBoard();
        one.feed(fed[0], fed[1], fed[2], fed[3], fed[4]);
        one.load(20);
        Check.due("the place of a byte", one::errorPosition, 4 * word + letter);
      }
    }
  }

  private static void fedNumbers() {
    MessengerBoard b = new MessengerBoard();
    for (int i = 1; i <= 30; i++) {
      Check.due("feed " + i, () -> b.feed(0, 0, 0, 0, 0), 20 * i);
    }
    b.load(0);
    Check.due("after a load", () -> b.feed(0, 0, 0, 0, 0), 20);
    b.query(0);
    Check.due("after a query", () -> b.feed(0, 0, 0, 0, 0), 20);
  }

  private static void fedTooMany() {
    MessengerBoard b = new MessengerBoard();
    String text = "board 5 5;" + " ".repeat(570) + "wall 1 1;wall 2 2;  ";
    Check.feed(b, text);
    Check.due("the 601st byte", () -> b.feed(0x77616c6c, 0x20332033, 0x3b202020, 0x20202020, 0x20202020), -1);
    Check.due("again", () -> b.feed(-1, -1, -1, -1, -1), -1);
    Check.illegal("nothing more can be read", () -> b.load(601));
    Check.due("all 600 are as they were", () -> b.load(600), 0);
    Check.due("walls", () -> b.size(6), 2);
    Check.due("then there is room again", () -> b.feed(0, 0, 0, 0, 0), 20);
  }

  private static void firstBytes() {
    MessengerBoard b = new MessengerBoard();
    Check.feed(b, "board 4 5;unit 0 0 1;oops");
    Check.due("all but the last ones", () -> b.load(21), 1);
    Check.feed(b, "board 5 4;unit 0 0 1;unit 0 0 1;");
    Check.due("up to a clause", () -> b.load(21), 1);
    Check.due("width", () -> b.size(0), 5);
    Check.feed(b, "board 12 12;");
    Check.due("a number that is cut", () -> b.load(7), -12);
    Check.due("at its place", b::errorPosition, 6);
    Check.feed(b, "board 3 3;");
    Check.due("none at all", () -> b.load(0), -11);
    Check.due("at the end", b::errorPosition, 0);
  }

  private static void replacesEverything() {
    MessengerBoard b = Check.boardOf("board 9 9;unit 2 0 1;unit 3 3 2;picket 4 0 0 1 0 0;wall 3 4;headquarters 1 1;"
        + "patience 3;plan 0 5 5 0;plan 0 5 5 9;");
    b.send(0, 4, 4);
    b.send(1, 4, 4);
    b.wall(8, 8);
    b.pass(9);
    b.distance(8, 7, 8, 8);
    b.movePicket(0, 2, 1);
    b.send(0, 4, 4);
    b.pass(1);
    Check.due("messengers were intercepted", () -> b.picket(0, 7) > 0, true);
    b.wouldBe(0, 4, 4, 3);
    Check.load(b, "board 9 9;unit 7 7 3;picket 4 4 0 1 0 0;");
    Check.row("size", b::size, 9, 9, 1, 1, 0, 0, 0, 0, 0, 30, 0, 0);
    Check.row("unit", what -> b.unit(0, what), 7, 7, 3, -1, -1, 0);
    Check.row("picket", what -> b.picket(0, what), 4, 4, 0, 1, 0, 0, 1, 0);
    Check.due("walls are gone", () -> b.isWall(8, 8), false);
    Check.due("ways are new", () -> b.distance(8, 7, 8, 8), 1);
    Check.noSuch("orders are gone", () -> b.order(0, 0));
    Check.noSuch("events are gone", () -> b.event(0, 0));
    Check.noSuch("plans are gone", () -> b.plan(0, 0));
    Check.illegal("the past is gone", () -> b.wasAt(0, 1));
    Check.due("a smaller board", () -> Check.load(b, "board 3 3;"), 0);
    Check.noSuch("has no cell beyond", () -> b.distance(3, 0, 0, 0));
    Check.due("a greater one", () -> Check.load(b, "board 12 12;"), 0);
    Check.due("has ways all over", () -> b.distance(0, 0, 11, 11), 22);
  }

  private static void discards() {
    MessengerBoard b = Check.boardOf("board 9 9;unit 2 0 1;");
    b.setPatience(4);
    b.saveSnapshot();
    Check.due("one can be undone", b::undoCount, 1);
    Check.load(b, "board 4 4;");
    Check.due("none can be undone", b::undoCount, 0);
    Check.due("nothing is undone", b::undo, -1);
    Check.due("no snapshot", b::restoreSnapshot, false);
    Check.due("the board stays", () -> b.size(0), 4);
  }

  private static void emptyAfterLoad() {
    MessengerBoard b = new MessengerBoard();
    Check.feed(b, "board 3 3;" + " ".repeat(90));
    b.load(10);
    Check.illegal("after a good text", () -> b.load(1));
    Check.due("so that feed begins anew", () -> b.feed(0, 0, 0, 0, 0), 20);
    Check.feed(b, "board 3 3;" + " ".repeat(90));
    Check.due("a text with an error", () -> b.load(1), -11);
    Check.illegal("after it", () -> b.query(1));
    Check.due("feed begins anew, too", () -> b.feed(0, 0, 0, 0, 0), 20);
  }

  private static void unitsLoaded() {
    for (int units = 0; units <= 6; units++) {
      String text = "board 3 3;" + "unit 0 0 1;".repeat(units);
      Check.due(text, () -> Check.load(new MessengerBoard(), text), units);
    }
  }

  private static void failedLoad() {
    MessengerBoard b = Check.boardOf("board 5 4;unit 1 1 1;wall 2 2;patience 7;headquarters 3 3;picket 4 0 0 1 0 0;");
    b.send(0, 1, 2);
    b.pass(1);
    b.saveSnapshot();
    b.format(1);
    String[] texts = {"board 6 6;wall 1 1;headquarters 2 2;unit 0 0 1;patience 3;picket 0 0 0 1 0 0;oops", "board 6 2;",
        SIX_UNITS + "unit", "board 6 6;wall 0 0;"};
    for (int i = 0; i < texts.length; i++) {
      String text = texts[i];
      Check.due(text, () -> Check.load(b, text), -11 - i);
      Check.row("size after " + text, b::size, 5, 4, 1, 1, 1, 1, 1, 0, 0, 7, 3, 3);
      Check.row("unit after " + text, what -> b.unit(0, what), 1, 1, 1, -1, -1, 1);
      Check.due("undo history after " + text, b::undoCount, 2);
      Check.due("text of format after " + text, () -> (char) b.formattedByte(1), '0');
    }
    Check.due("a wall", () -> b.isWall(2, 2), true);
    Check.due("no wall of a refused text", () -> b.isWall(1, 1), false);
    Check.due("the snapshot", b::restoreSnapshot, true);
    Check.due("the past", () -> b.wasAt(0, 0), 101);
    Check.due("turns pass as before", () -> b.wouldBe(0, 1, 2, 3), 2);
  }

  private static void refusedLoad() {
    MessengerBoard b = new MessengerBoard();
    Check.illegal("of an empty buffer", () -> b.load(1));
    Check.load(b, "board 4 4;wall 0 0;");
    Check.feed(b, "board 3 3;");
    for (int length : new int[] {-1, 21, 601, Integer.MIN_VALUE, Integer.MAX_VALUE}) {
      Check.illegal("load " + length, () -> b.load(length));
    }
    Check.due("the error position stays", b::errorPosition, 17);
    Check.due("the board stays", () -> b.size(0), 3);
    Check.due("the buffer stays", () -> b.load(20), 0);
    Check.due("all of it was read", b::errorPosition, -1);
  }

  private static void firstByte() {
    Check.badText("   bored 3 3;", 1, 3);
    Check.badText("board 3 0013;", 2, 8);
    Check.badText("board 3 3;\n\nhall 1 1;", 1, 12);
    Check.badText("board 3 3;" + " ".repeat(589) + "x", 1, 599);
    Check.badText("board 3 3;" + " ".repeat(580) + "wall 0   0", 4, 599);
    MessengerBoard b = new MessengerBoard();
    Check.badQuery(b, "  meny x=1", 1, 2);
    Check.badQuery(b, "many x=  0010000", 2, 9);
    Check.badQuery(b, "many x=1" + " ".repeat(191) + "1", 1, 199);
  }

  private static void mostRecentCall() {
    MessengerBoard b = new MessengerBoard();
    Check.load(b, "board 3 x");
    Check.due("of a load", b::errorPosition, 8);
    Check.query(b, "many z");
    Check.due("of a query", b::errorPosition, 5);
    Check.load(b, "oops");
    Check.due("of a load again", b::errorPosition, 0);
    Check.query(b, "many x");
    Check.illegal("a load that reads nothing", () -> b.load(1));
    Check.illegal("a query that reads nothing", () -> b.query(1));
    Check.due("still of the query", b::errorPosition, 6);
    b.saveSnapshot();
    Check.query(b, "many x=x");
    b.restoreSnapshot();
    Check.due("of a good query", b::errorPosition, -1);
    b.setPatience(3);
    Check.query(b, "many x=x 7");
    b.undo();
    Check.due("undo does not matter", b::errorPosition, 9);
  }

  private static void noPosition() {
    MessengerBoard b = new MessengerBoard();
    Check.due("no call", b::errorPosition, -1);
    Check.illegal("a refused call", () -> b.load(5));
    Check.illegal("a refused query", () -> b.query(-5));
    Check.due("no call that read", b::errorPosition, -1);
    Check.load(b, "oops");
    Check.load(b, "board 3 3;");
    Check.due("a good load", b::errorPosition, -1);
    Check.load(b, "oops");
    Check.query(b, "many x=x");
    Check.due("a good query", b::errorPosition, -1);
  }

  private static void firstBytesOfQuery() {
    MessengerBoard b = fourOrders();
    Check.feed(b, "many order<33 oops");
    Check.due("all but the last ones", () -> b.query(12), 3);
    Check.feed(b, "many order=order");
    Check.due("a word that is cut", () -> b.query(15), -1000000001);
    Check.due("at its place", b::errorPosition, 11);
    Check.feed(b, "many order=order");
    Check.due("none at all", () -> b.query(0), -1000000001);
    Check.due("at the end", b::errorPosition, 0);
  }

  private static void emptyAfterQuery() {
    MessengerBoard b = fourOrders();
    Check.feed(b, "many order=order" + " ".repeat(80));
    Check.due("a query", () -> b.query(16), 4);
    Check.illegal("after a good one", () -> b.query(1));
    Check.feed(b, "meny order=order" + " ".repeat(80));
    Check.due("an error", () -> b.query(16), -1000000001);
    Check.illegal("after an error", () -> b.load(1));
    Check.due("feed begins anew", () -> b.feed(0, 0, 0, 0, 0), 20);
    Check.due("a query is no operation", b::undoCount, 7);
  }

  private static void longestQuery() {
    MessengerBoard b = fourOrders();
    String text = "many " + " ".repeat(189) + "x=0002";
    Check.due("its length", text::length, 200);
    Check.asked(b, text, 1);
    Check.feed(b, text + "0");
    Check.illegal("201 bytes", () -> b.query(201));
    Check.due("200 bytes of 220", () -> b.query(200), 1);
  }

  private static void many() {
    MessengerBoard b = fourOrders();
    Check.asked(b, "many order<0", 0);
    Check.asked(b, "many order<1", 1);
    Check.asked(b, "many order<4", 4);
    Check.asked(new MessengerBoard(), "many 1=1", 0);
    MessengerBoard full = Check.boardOf("board 3 3;unit 0 0 1;");
    for (int i = 0; i < 40; i++) {
      full.send(0, 0, 0);
    }
    Check.asked(full, "many 1=1", 40);
    Check.asked(full, "many not order<39", 1);
    Check.asked(full, "many order>31", 8);
  }

  private static void first() {
    MessengerBoard b = fourOrders();
    Check.asked(b, "first order<0", -1);
    Check.asked(b, "first 1=1", 0);
    Check.asked(b, "first unit=1", 1);
    Check.asked(b, "first order>2", 3);
    Check.asked(b, "first order>3", -1);
    Check.asked(new MessengerBoard(), "first 1=1", -1);
    Check.asked(new MessengerBoard(), "first not 1=1", -1);
    MessengerBoard full = Check.boardOf("board 3 3;unit 0 0 1;");
    for (int i = 0; i < 40; i++) {
      full.send(0, 0, 0);
    }
    Check.asked(full, "first order=39", 39);
    Check.asked(full, "first order>31", 32);
  }

  private static void failedQuery() {
    MessengerBoard b = fourOrders();
    Check.badQuery(b, "many", 1, 4);
    Check.badQuery(b, "many x=10000", 2, 7);
    Check.badQuery(b, "many (((((((x=x)))))))", 3, 11);
    Check.badQuery(new MessengerBoard(), "first 1=", 1, 8);
    Check.row("size stays", b::size, 9, 3, 2, 0, 4, 3);
    Check.due("undo history stays", b::undoCount, 7);
  }

  private static void refusedQuery() {
    MessengerBoard b = fourOrders();
    Check.illegal("of an empty buffer", () -> b.query(1));
    Check.load(b, "oops");
    Check.feed(b, "many order<2");
    for (int length : new int[] {-1, 21, 200, 201, Integer.MIN_VALUE, Integer.MAX_VALUE}) {
      Check.illegal("query " + length, () -> b.query(length));
    }
    Check.due("the error position stays", b::errorPosition, 0);
    Check.due("the buffer stays", () -> b.query(20), 2);
    Check.feed(b, "many order<2" + " ".repeat(588));
    Check.illegal("query 201 of 600", () -> b.query(201));
    Check.due("the buffer stays, too", () -> b.query(200), 2);
  }
}
