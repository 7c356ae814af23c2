/** Runs of made-up calls, each answered by MessengerBoard and by ReferenceBoard, which must agree. */
public final class RandomRunsTest {
  private static final int RUNS = 4000;
  private static final int CHANGES = 120;
  /** Nothing is promised of an object behind them. */
  private static final int CALLS = 512;
  /** What is left for looking when the changes end. */
  private static final int LAST_LOOKS = 150;

  private long seed;
  private int calls;
  private MessengerBoard board;
  private ReferenceBoard reference;
  private final StringBuilder log = new StringBuilder();
  private boolean differs;

  private RandomRunsTest(long seed) {
    this.seed = seed * 2654435761L + 12345;
  }

  public static void main(String[] args) {
    for (int run = 0; run < RUNS && Check.allWell(); run++) {
      new RandomRunsTest(run).go();
    }
    Check.end();
  }

  private int below(int bound) {
    seed = seed * 6364136223846793005L + 1442695040888963407L;
    return (int) ((seed >>> 33) % bound);
  }

  private boolean oneIn(int bound) {
    return below(bound) == 0;
  }

  private void go() {
    begin();
    loadText();
    for (int change = 0; change < CHANGES && calls < CALLS - LAST_LOOKS && !differs; change++) {
      change();
      look();
      if (oneIn(10)) {
        lookAtRows(8);
      }
      if (oneIn(15)) {
        reachLimits();
      }
    }
    lookAtTheWhole();
    lookAtRows(CALLS - calls);
    Check.counted();
  }

  private void begin() {
    log.append("new; ");
    board = new MessengerBoard();
    reference = new ReferenceBoard();
    calls = 0;
  }

  private void both(String what, Check.Call ours, Check.Call theirs) {
    if (calls == CALLS) {
      return;
    }
    calls++;
    String got = Check.answerOf(ours);
    String want = Check.answerOf(theirs);
    log.append(what).append(" -> ").append(want).append("; ");
    if (!got.equals(want) && !differs) {
      differs = true;
      Check.say(log + "\n  but " + what + " answered " + got + ", due is " + want);
    }
  }

  private int x() {
    return oneIn(40) ? below(16) - 2 : below(reference.size(0));
  }

  private int y() {
    return oneIn(40) ? below(16) - 2 : below(reference.size(1));
  }

  private int row(int count) {
    return oneIn(25) || count == 0 ? below(count + 3) - 1 : below(count);
  }

  private int wild() {
    int[] odd = {Integer.MIN_VALUE, -1, Integer.MAX_VALUE, 1000, -12, 144, 715827883};
    return odd[below(odd.length)];
  }

  private int turns() {
    return oneIn(20) ? wild() : oneIn(10) ? below(64) - 1 : below(8);
  }

  private void change() {
    switch (below(oneIn(60) ? 13 : 10)) {
      case 0, 1, 2 -> {
        int unit = row(reference.size(2));
        int x = x();
        int y = y();
        both("send(" + unit + "," + x + "," + y + ")", () -> board.send(unit, x, y),
            () -> reference.send(unit, x, y));
      }
      case 3, 4, 5 -> {
        int turns = oneIn(8) ? turns() : 1 + below(3);
        both("pass(" + turns + ")", () -> board.pass(turns), () -> reference.pass(turns));
      }
      case 6 -> {
        int x = x();
        int y = y();
        both("wall(" + x + "," + y + ")", () -> board.wall(x, y), () -> reference.wall(x, y));
      }
      case 7 -> {
        int picket = row(reference.size(3));
        int x = x();
        int y = y();
        both("movePicket(" + picket + "," + x + "," + y + ")", () -> board.movePicket(picket, x, y),
            () -> reference.movePicket(picket, x, y));
        int plan = row(reference.size(8));
        int turn = reference.size(5) + below(30) - 3;
        both("movePlan(" + plan + "," + turn + ")", () -> board.movePlan(plan, turn),
            () -> reference.movePlan(plan, turn));
      }
      case 8 -> {
        int patience = oneIn(3) ? below(33) - 1 : below(12);
        if (oneIn(3)) {
          both("setPatience(" + patience + ")", () -> board.setPatience(patience),
              () -> reference.setPatience(patience));
        }
      }
      case 9 -> undoOrSnapshot();
      case 10 -> loadText();
      case 11 -> {
        begin();
        loadText();
      }
      default -> {
        for (int i = below(12); i > 0; i--) {
          both("undo", board::undo, reference::undo);
        }
      }
    }
  }

  private void undoOrSnapshot() {
    switch (below(6)) {
      case 0 -> {
        both("saveSnapshot", () -> {
          board.saveSnapshot();
          return "";
        }, () -> {
          reference.saveSnapshot();
          return "";
        });
      }
      case 1 -> both("restoreSnapshot", board::restoreSnapshot, reference::restoreSnapshot);
      default -> both("undo", board::undo, reference::undo);
    }
  }

  private void look() {
    int unit = row(reference.size(2));
    int x = x();
    int y = y();
    int toX = x();
    int toY = y();
    int turns = turns();
    int past = oneIn(20) ? wild() : below(reference.size(5) + 2) - (oneIn(10) ? 1 : 0);
    switch (below(16)) {
      case 0 -> both("wouldBe(" + unit + "," + x + "," + y + "," + turns + ")",
          () -> board.wouldBe(unit, x, y, turns), () -> reference.wouldBe(unit, x, y, turns));
      case 1 -> both("wouldArrive(" + unit + "," + x + "," + y + ")",
          () -> board.wouldArrive(unit, x, y), () -> reference.wouldArrive(unit, x, y));
      case 2 -> {
        if (oneIn(8)) {
          both("bestDelay(" + unit + "," + x + "," + y + ")",
              () -> board.bestDelay(unit, x, y), () -> reference.bestDelay(unit, x, y));
        }
      }
      case 3 -> both("failing(" + turns + ")", () -> board.failing(turns), () -> reference.failing(turns));
      case 4 -> both("distance", () -> board.distance(x, y, toX, toY), () -> reference.distance(x, y, toX, toY));
      case 5 -> both("step", () -> board.step(x, y, toX, toY), () -> reference.step(x, y, toX, toY));
      case 6 -> both("wasAt(" + unit + "," + past + ")", () -> board.wasAt(unit, past),
          () -> reference.wasAt(unit, past));
      case 7 -> {
        int order = row(reference.size(4));
        both("stateAt(" + order + "," + past + ")", () -> board.stateAt(order, past),
            () -> reference.stateAt(order, past));
      }
      case 8 -> both("isWatched", () -> board.isWatched(x, y, past), () -> reference.isWatched(x, y, past));
      case 9, 10 -> {
        both("format(" + y + ")", () -> board.format(y), () -> reference.format(y));
        both("formattedByte(" + x + ")", () -> board.formattedByte(x), () -> reference.formattedByte(x));
      }
      case 11, 12, 13 -> ask();
      case 14 -> both("isWall", () -> board.isWall(x, y), () -> reference.isWall(x, y));
      default -> {
        int odd = oneIn(2) ? wild() : below(14) - 1;
        both("size(" + odd + ")", () -> board.size(odd), () -> reference.size(odd));
        both("unit(" + unit + "," + odd + ")", () -> board.unit(unit, odd), () -> reference.unit(unit, odd));
        both("order(" + unit + "," + odd + ")", () -> board.order(unit, odd), () -> reference.order(unit, odd));
        both("orders(" + odd + ")", () -> board.orders(odd), () -> reference.orders(odd));
      }
    }
  }

  private void lookAtTheWhole() {
    for (int i = -1; i <= 12; i++) {
      int what = i;
      both("size(" + what + ")", () -> board.size(what), () -> reference.size(what));
      both("orders(" + what + ")", () -> board.orders(what), () -> reference.orders(what));
      both("formattedByte(" + what + ")", () -> board.formattedByte(what), () -> reference.formattedByte(what));
    }
    both("crossed", board::crossed, reference::crossed);
    both("meanDelay", board::meanDelay, reference::meanDelay);
    both("success", board::success, reference::success);
    both("undoCount", board::undoCount, reference::undoCount);
    both("errorPosition", board::errorPosition, reference::errorPosition);
  }

  private void lookAtRows(int looks) {
    for (int i = 0; i < looks; i++) {
      lookAtRow();
    }
  }

  private void lookAtRow() {
    int what = below(12) - 1;
    int unit = row(reference.size(2));
    int picket = row(reference.size(3));
    int order = row(reference.size(4));
    int event = row(reference.size(7));
    int plan = row(reference.size(8));
    int turn = below(reference.size(5) + 1);
    switch (below(9)) {
      case 0 -> both("unit(" + unit + "," + what + ")", () -> board.unit(unit, what), () -> reference.unit(unit, what));
      case 1 -> both("picket(" + picket + "," + what + ")", () -> board.picket(picket, what),
          () -> reference.picket(picket, what));
      case 2, 3 -> both("order(" + order + "," + what + ")", () -> board.order(order, what),
          () -> reference.order(order, what));
      case 4, 5 -> both("event(" + event + "," + what % 5 + ")", () -> board.event(event, what % 5),
          () -> reference.event(event, what % 5));
      case 6 -> both("plan(" + plan + "," + what % 6 + ")", () -> board.plan(plan, what % 6),
          () -> reference.plan(plan, what % 6));
      case 7 -> both("wasAt(" + unit + "," + turn + ")", () -> board.wasAt(unit, turn), () -> reference.wasAt(unit, turn));
      default -> both("stateAt(" + order + "," + turn + ")", () -> board.stateAt(order, turn),
          () -> reference.stateAt(order, turn));
    }
  }

  /** Now and then: many orders at once, or turns up to the last one. */
  private void reachLimits() {
    if (oneIn(6)) {
      for (int i = below(12); i > 0; i--) {
        both("pass(60)", () -> board.pass(60), () -> reference.pass(60));
      }
    } else {
      int unit = row(reference.size(2));
      for (int i = below(15); i > 0; i--) {
        int x = x();
        int y = y();
        both("send(" + unit + "," + x + "," + y + ")", () -> board.send(unit, x, y),
            () -> reference.send(unit, x, y));
      }
    }
  }

  private void feedBoth(String text) {
    for (int[] w : Check.feeds(Check.bytesOf(text))) {
      both("feed", () -> board.feed(w[0], w[1], w[2], w[3], w[4]), () -> reference.feed(w));
    }
  }

  private void loadText() {
    String text = boardText();
    log.append("\"").append(text).append("\" ");
    feedBoth(text);
    int length = oneIn(30) ? below(620) - 5 : text.length();
    both("load(" + length + ")", () -> board.load(length), () -> reference.load(length));
    both("errorPosition", board::errorPosition, reference::errorPosition);
    if (reference.size(2) == 0 && oneIn(2)) {
      String plain = "board 5 4; unit 2 2 1; unit 4 3 2; picket 1 1 1 3 0 0;";
      feedBoth(plain);
      both("load", () -> board.load(plain.length()), () -> reference.load(plain.length()));
    }
  }

  private String boardText() {
    String text = switch (below(4)) {
      case 0 -> ringText();
      case 1 -> crowdText();
      default -> mixedText();
    };
    return mutated(text, 12);
  }

  private String mixedText() {
    int width = 3 + below(oneIn(3) ? 10 : 4);
    int height = 3 + below(oneIn(3) ? 10 : 4);
    String text = "board " + width + " " + height + ";";
    int clauses = below(oneIn(4) ? 60 : 14);
    for (int i = 0; i < clauses; i++) {
      text = with(text, clause(width, height));
    }
    return text;
  }

  /** A ring, on which a unit comes back on the other side while messengers follow it: newer orders overtake older ones. */
  private String ringText() {
    int width = 6 + below(7);
    String text = "board " + width + " 3;headquarters 0 1;unit " + (width - 1) + " 1 1;";
    for (int x = 1; x < width - 1; x++) {
      text += "wall " + x + " 1;";
    }
    for (int i = below(16); i > 0; i--) {
      String plan = "plan 0 " + below(width) + " " + 2 * below(2) + " " + below(30) + ";";
      text = with(text, oneIn(6) ? clause(width, 3) : plan);
    }
    return text;
  }

  /** As many units, pickets and plans as there can be, or nearly so. */
  private String crowdText() {
    int width = 4 + below(5);
    int height = 3 + below(4);
    String text = "board " + width + " " + height + ";";
    for (int i = 5 + below(2); i > 0; i--) {
      text = with(text, "unit " + below(width) + " " + below(height) + " " + (1 + below(3)) + ";");
    }
    for (int i = 3 + below(2); i > 0; i--) {
      int period = 2 + below(19);
      int last = below(period);
      text = with(text, "picket " + below(width) + " " + below(height) + " " + below(3) + " " + period + " "
          + below(last + 1) + " " + last + ";");
    }
    for (int i = 17 + below(4); i > 0; i--) {
      text = with(text, "plan " + below(6) + " " + below(width) + " " + below(height) + " " + below(40) + ";");
    }
    return text;
  }

  private String with(String text, String clause) {
    String longer = text + clause;
    return longer.length() <= 600 && (oneIn(60) || loads(longer)) ? longer : text;
  }

  private boolean loads(String text) {
    ReferenceBoard judge = new ReferenceBoard();
    for (int[] words : Check.feeds(Check.bytesOf(text))) {
      judge.feed(words);
    }
    return judge.load(text.length()) >= 0;
  }

  private String clause(int width, int height) {
    String cell = gap() + below(width + (oneIn(9) ? 2 : 0)) + " " + below(height + (oneIn(9) ? 2 : 0)) + " ";
    int period = 1 + below(oneIn(4) ? 21 : 5);
    return switch (below(10)) {
      case 0, 1, 2 -> "wall" + cell + ";" + gap();
      case 3 -> gap() + "headquarters" + cell + ";";
      case 4, 5 -> "unit" + cell + (oneIn(9) ? below(5) : 1 + below(3)) + ";";
      case 6 -> "picket" + cell + below(oneIn(4) ? 5 : 2) + " " + period + " " + below(period + 1) + gap()
          + " " + below(period + 1) + ";";
      case 7 -> "patience" + gap() + (oneIn(2) ? below(32) : 3 + below(9)) + ";";
      default -> "plan " + below(oneIn(9) ? 7 : 2) + cell + (oneIn(9) ? 490 + below(12) : below(40)) + ";";
    };
  }

  private String gap() {
    return switch (below(5)) {
      case 0 -> " ";
      case 1 -> "\n";
      case 2 -> " \n ";
      default -> "";
    };
  }

  private String mutated(String text, int rarity) {
    if (!oneIn(rarity)) {
      return text;
    }
    StringBuilder b = new StringBuilder(text);
    String odd = "abz09 ;<=>()\n#A{`/:\u00e9\u0000-";
    for (int i = 1 + below(2); i > 0 && b.length() > 1; i--) {
      int at = below(b.length());
      switch (below(4)) {
        case 0 -> b.deleteCharAt(at);
        case 1 -> b.setCharAt(at, odd.charAt(below(odd.length())));
        case 2 -> b.insert(at, odd.charAt(below(odd.length())));
        default -> b.setLength(at);
      }
    }
    return b.toString();
  }

  private void ask() {
    String text = mutated((oneIn(2) ? "many" : "first") + " " + test(3), 8);
    log.append("\"").append(text).append("\" ");
    feedBoth(text);
    int length = oneIn(30) ? below(230) - 5 : text.length();
    both("query(" + length + ")", () -> board.query(length), () -> reference.query(length));
    both("errorPosition", board::errorPosition, reference::errorPosition);
  }

  private String test(int depth) {
    StringBuilder b = new StringBuilder(factor(depth));
    for (int i = below(3); i > 0; i--) {
      b.append(oneIn(2) ? " or " : " and\n").append(factor(depth));
    }
    return b.toString();
  }

  private String factor(int depth) {
    if (oneIn(4)) {
      return "not ".repeat(1 + below(oneIn(5) ? 7 : 3)) + factor(depth - 1);
    }
    if (depth > 0 && oneIn(3)) {
      int deep = oneIn(6) ? 1 + below(7) : 1;
      return "(".repeat(deep) + test(depth - 1) + ")".repeat(deep);
    }
    return value() + "<=>".charAt(below(3)) + gap() + value();
  }

  private String value() {
    String[] names = {"order", "unit", "state", "sent", "arrived", "ended", "steps", "x", "y"};
    int[] numbers = {0, 1, 2, 3, 4, 5, 6, 7, 9999, 10000, 12};
    return oneIn(2) ? names[below(names.length)]
        : (oneIn(9) ? "000" : "") + numbers[below(oneIn(4) ? numbers.length : 7)];
  }
}
