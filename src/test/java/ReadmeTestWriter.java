import java.io.IOException;
import java.io.PrintWriter;
import java.lang.reflect.Method;
import java.lang.reflect.Modifier;
import java.nio.charset.StandardCharsets;
import java.nio.file.Files;
import java.nio.file.Path;
import java.util.Set;
import java.util.TreeSet;
import java.util.regex.Matcher;
import java.util.regex.Pattern;

/**
 * Makes a test of README.md: the Java code in it, as it stands there, with each answer told behind a call
 * checked. Its arguments are README.md and the file to write, the class in which is ReadmeTest.
 */
public final class ReadmeTestWriter {
  private static final Pattern BLOCK = Pattern.compile("(?s)```java\n(.*?)```");
  private static final Pattern CALL = Pattern.compile("(?s)(.*?\\))\\s*;\\s*(?://\\s*(.*))?");
  /** The answer is what stands ahead of a colon and a blank; behind it is an explanation. */
  private static final Pattern ANSWER = Pattern.compile("(?s)(.*?)(?:: .*)?");

  private final StringBuilder helpers = new StringBuilder();
  private final StringBuilder calls = new StringBuilder();

  private ReadmeTestWriter() {
  }

  public static void main(String[] args) throws IOException {
    String readme = Files.readString(Path.of(args[0]), StandardCharsets.UTF_8);
    ReadmeTestWriter writer = new ReadmeTestWriter();
    Matcher block = BLOCK.matcher(readme);
    while (block.find()) {
      writer.take(block.group(1));
    }
    writer.missEveryMethodNotIn(readme);
    try (PrintWriter out = new PrintWriter(args[1], StandardCharsets.UTF_8)) {
      out.println("public final class ReadmeTest {");
      out.println(writer.helpers);
      out.println("public static void main(String[] args) {");
      out.println(writer.calls);
      out.println("Check.end();");
      out.println("}");
      out.println("}");
    }
  }

  /** A block is either helpers or calls. */
  private void take(String block) {
    if (block.startsWith("static ")) {
      helpers.append(block).append("\n");
      return;
    }
    String call = "";
    for (String line : block.split("\n")) {
      call = call.isEmpty() ? line.strip() : call + " " + line.strip();
      Matcher whole = CALL.matcher(call);
      if (whole.matches()) {
        takeCall(whole.group(1), whole.group(2));
        call = "";
      }
    }
    if (!call.isEmpty()) {
      calls.append("Check.say(").append(quoted("no call: " + call)).append(");\n");
    }
  }

  private void takeCall(String call, String comment) {
    if (comment == null) {
      calls.append(call).append(";\n");
      return;
    }
    Matcher answer = ANSWER.matcher(comment);
    String due = answer.matches() ? answer.group(1).strip() : comment;
    if (due.startsWith("\"") && due.endsWith("\"") && due.length() > 1) {
      due = due.substring(1, due.length() - 1);
    }
    due = due.replaceFirst("^throws ", "throws.");
    calls.append("Check.due(").append(quoted("README.md: " + call)).append(", () -> ").append(call)
        .append(", ").append(quoted(due)).append(");\n");
  }

  private void missEveryMethodNotIn(String readme) {
    Set<String> missing = new TreeSet<>();
    for (Method method : MessengerBoard.class.getDeclaredMethods()) {
      boolean open = Modifier.isPublic(method.getModifiers());
      if (open && !readme.contains("board." + method.getName() + "(")) {
        missing.add(method.getName());
      }
    }
    calls.append("Check.due(\"methods without a call in README.md\", () -> ").append(quoted(missing.toString()))
        .append(", \"[]\");\n");
  }

  private static String quoted(String text) {
    return "\"" + text.replace("\\", "\\\\").replace("\"", "\\\"") + "\"";
  }
}
