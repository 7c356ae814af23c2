import java.util.ArrayList;
import java.util.List;
import java.util.function.Function;

/**
 * Everything that a board tells of itself. It is asked of several boards that one recipe makes alike, as
 * nothing is promised of an object behind its 512th call.
 */
final class Picture {
  private static final int QUESTIONS_EACH = 300;

  interface Recipe {
    MessengerBoard make();
  }

  private Picture() {
  }

  static String of(Recipe recipe) {
    StringBuilder told = new StringBuilder();
    MessengerBoard board = recipe.make();
    int asked = 0;
    for (Function<MessengerBoard, Object> question : questions(recipe.make())) {
      if (asked == QUESTIONS_EACH) {
        board = recipe.make();
        asked = 0;
      }
      MessengerBoard one = board;
      told.append(Check.answerOf(() -> question.apply(one))).append(' ');
      asked++;
    }
    return told.toString();
  }

  private static List<Function<MessengerBoard, Object>> questions(MessengerBoard board) {
    List<Function<MessengerBoard, Object>> questions = new ArrayList<>();
    for (int what = 0; what < 12; what++) {
      int w = what;
      questions.add(b -> b.size(w));
      questions.add(b -> b.orders(w));
    }
    rows(questions, board.size(2), 6, (b, row, what) -> b.unit(row, what));
    rows(questions, board.size(3), 8, (b, row, what) -> b.picket(row, what));
    rows(questions, board.size(4), 10, (b, row, what) -> b.order(row, what));
    rows(questions, board.size(8), 4, (b, row, what) -> b.plan(row, what));
    rows(questions, board.size(7), 3, (b, row, what) -> b.event(row, what));
    rows(questions, board.size(2), board.size(5) + 2, (b, row, turn) -> b.wasAt(row, turn));
    rows(questions, board.size(4), board.size(5) + 2, (b, row, turn) -> b.stateAt(row, turn));
    rows(questions, board.size(0), board.size(1), (b, x, y) -> b.isWall(x, y));
    rows(questions, board.size(0), board.size(1), (b, x, y) -> b.distance(b.size(10), b.size(11), x, y));
    questions.add(MessengerBoard::crossed);
    questions.add(MessengerBoard::meanDelay);
    questions.add(MessengerBoard::success);
    questions.add(b -> b.failing(60));
    return questions;
  }

  private interface Cell {
    Object tell(MessengerBoard board, int row, int column);
  }

  private static void rows(List<Function<MessengerBoard, Object>> questions, int rows, int columns, Cell cell) {
    for (int row = 0; row <= rows; row++) {
      for (int column = 0; column <= columns; column++) {
        int r = row;
        int c = column;
        questions.add(b -> cell.tell(b, r, c));
      }
    }
  }
}
