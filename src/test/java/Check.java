import java.util.ArrayList;
import java.util.List;

/** What the tests share: feeding texts, comparing answers and ending with the right exit code. */
final class Check {
  interface Call {
    Object answer();
  }

  private static int checks = 0;
  private static int wrong = 0;

  private Check() {
  }

  /** The answer of a call as text; an exception as throws. and its plain name. */
  static String answerOf(Call call) {
    try {
      return String.valueOf(call.answer());
    } catch (RuntimeException e) {
      return "throws." + e.getClass().getSimpleName();
    }
  }

  static void due(String what, Call call, Object want) {
    checks++;
    String got = answerOf(call);
    if (!got.equals(String.valueOf(want))) {
      wrong++;
      System.out.println(what + ": answered " + got + ", due is " + want);
    }
  }

  static void noSuch(String what, Call call) {
    due(what, call, "throws.NoSuchElementException");
  }

  static void illegal(String what, Call call) {
    due(what, call, "throws.IllegalArgumentException");
  }

  static void say(String complaint) {
    checks++;
    wrong++;
    System.out.println(complaint);
  }

  static void counted() {
    checks++;
  }

  static boolean allWell() {
    return wrong == 0;
  }

  /** The five parameters of each call of feed that a text needs, filled up with spaces. */
  static List<int[]> feeds(byte[] bytes) {
    List<int[]> feeds = new ArrayList<>();
    for (int at = 0; at < bytes.length; at += 20) {
      int[] words = new int[5];
      for (int i = 0; i < 20; i++) {
        int value = at + i < bytes.length ? bytes[at + i] & 255 : ' ';
        words[i / 4] = words[i / 4] << 8 | value;
      }
      feeds.add(words);
    }
    return feeds;
  }

  static byte[] bytesOf(String text) {
    byte[] bytes = new byte[text.length()];
    for (int i = 0; i < bytes.length; i++) {
      bytes[i] = (byte) text.charAt(i);
    }
    return bytes;
  }

  static void feed(MessengerBoard board, String text) {
    for (int[] words : feeds(bytesOf(text))) {
      board.feed(words[0], words[1], words[2], words[3], words[4]);
    }
  }

  static int load(MessengerBoard board, String text) {
    feed(board, text);
    return board.load(text.length());
  }

  static int query(MessengerBoard board, String text) {
    feed(board, text);
    return board.query(text.length());
  }

  static MessengerBoard boardOf(String text) {
    MessengerBoard board = new MessengerBoard();
    due("load \"" + text + "\" has no error", () -> load(board, text) >= 0, true);
    return board;
  }

  static String rowOf(MessengerBoard board, int y) {
    int length = board.format(y);
    StringBuilder row = new StringBuilder();
    for (int i = 0; i < length; i++) {
      row.append((char) board.formattedByte(i));
    }
    return row.toString();
  }

  static void end() {
    System.out.println(checks + " checks, " + wrong + " wrong");
    if (wrong != 0 || checks == 0) {
      System.exit(1);
    }
  }
}
