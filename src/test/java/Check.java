import java.util.ArrayList;
import java.util.List;

/** What the tests share: feeding texts, comparing answers and ending with the right exit code. */
final class Check {
  interface Call {
    Object answer();
  }

  interface NumberedCall {
    Object answer(int number);
  }

  /** A test that takes longer is taken for one that does not end. */
  private static final int MOST_SECONDS = 300;

  private static volatile String sentence = "";
  private static int checks = 0;
  private static int wrong = 0;

  private Check() {
  }

  static {
    Thread watch = new Thread(Check::endWhatDoesNotEnd);
    watch.setDaemon(true);
    watch.start();
  }

  private static void endWhatDoesNotEnd() {
    try {
      Thread.sleep(MOST_SECONDS * 1000L);
    } catch (InterruptedException e) {
      return;
    }
    System.out.println(sentence + "does not end");
    Runtime.getRuntime().halt(1);
  }

  /** The answer of a call as text; an exception as throws. and its plain name. */
  static String answerOf(Call call) {
    try {
      return String.valueOf(call.answer());
    } catch (RuntimeException e) {
      return "throws." + e.getClass().getSimpleName();
    }
  }

  static void due(String what, Call call, Object want) {
    checks++;
    String got = answerOf(call);
    if (!got.equals(String.valueOf(want))) {
      wrong++;
      System.out.println(sentence + what + ": answered " + got + ", due is " + want);
    }
  }

  /** The answers to a question that is asked with the numbers from 0 on. */
  static void row(String what, NumberedCall call, Object... want) {
    for (int number = 0; number < want.length; number++) {
      int asked = number;
      due(what + " " + number, () -> call.answer(asked), want[number]);
    }
  }

  /** A sentence of the document, in its own words, and the test of its own that it has. */
  static void sentence(String words, Runnable test) {
    sentence = "\"" + words + "\" ";
    int before = checks;
    try {
      test.run();
    } catch (RuntimeException e) {
      say("the test ended with " + e);
    }
    if (checks == before) {
      say("nothing was checked");
    }
    sentence = "";
  }

  static void noSuch(String what, Call call) {
    due(what, call, "throws.NoSuchElementException");
  }

  static void illegal(String what, Call call) {
    due(what, call, "throws.IllegalArgumentException");
  }

  static void say(String complaint) {
    checks++;
    wrong++;
    System.out.println(sentence + complaint);
  }

  static void counted() {
    checks++;
  }

  static boolean allWell() {
    return wrong == 0;
  }

  /** The five parameters of each call of feed that a text needs, filled up with spaces. */
  static List<int[]> feeds(byte[] bytes) {
    List<int[]> feeds = new ArrayList<>();
    for (int at = 0; at < bytes.length; at += 20) {
      int[] words = new int[5];
      for (int i = 0; i < 20; i++) {
        int value = at + i < bytes.length ? bytes[at + i] & 255 : ' ';
        words[i / 4] = words[i / 4] << 8 | value;
      }
      feeds.add(words);
    }
    return feeds;
  }

  static byte[] bytesOf(String text) {
    byte[] bytes = new byte[text.length()];
    for (int i = 0; i < bytes.length; i++) {
      bytes[i] = (byte) text.charAt(i);
    }
    return bytes;
  }

  static void feed(MessengerBoard board, String text) {
    for (int[] words : feeds(bytesOf(text))) {
      board.feed(words[0], words[1], words[2], words[3], words[4]);
    }
  }

  static int load(MessengerBoard board, String text) {
    feed(board, text);
    return board.load(text.length());
  }

  static int query(MessengerBoard board, String text) {
    feed(board, text);
    return board.query(text.length());
  }

  static MessengerBoard boardOf(String text) {
    MessengerBoard board = new MessengerBoard();
    due("load \"" + text + "\" has no error", () -> load(board, text) >= 0, true);
    return board;
  }

  /** A text that a new board refuses. */
  static void badText(String text, int code, int position) {
    MessengerBoard board = new MessengerBoard();
    due("load \"" + text + "\"", () -> load(board, text), -10 - code);
    due("position in \"" + text + "\"", board::errorPosition, position);
  }

  static void badQuery(MessengerBoard board, String text, int code, int position) {
    due("query \"" + text + "\"", () -> query(board, text), -1000000000 - code);
    due("position in \"" + text + "\"", board::errorPosition, position);
  }

  static void asked(MessengerBoard board, String text, int want) {
    due("query \"" + text + "\"", () -> query(board, text), want);
    due("position in \"" + text + "\"", board::errorPosition, -1);
  }

  /** Of an event: its turn, its order and the state that this got. */
  static String eventOf(MessengerBoard board, int event) {
    return board.event(event, 0) + " " + board.event(event, 1) + " " + board.event(event, 2);
  }

  static String rowOf(MessengerBoard board, int y) {
    int length = board.format(y);
    StringBuilder row = new StringBuilder();
    for (int i = 0; i < length; i++) {
      row.append((char) board.formattedByte(i));
    }
    return row.toString();
  }

  static void end() {
    System.out.println(checks + " checks, " + wrong + " wrong");
    if (wrong != 0 || checks == 0) {
      System.exit(1);
    }
  }
}
