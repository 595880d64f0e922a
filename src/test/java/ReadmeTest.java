import java.io.IOException;
import java.nio.file.Files;
import java.nio.file.Path;
import java.util.ArrayList;
import java.util.List;
import java.util.regex.Matcher;
import java.util.regex.Pattern;

/** That README.md tells of every method of the document's face with its errors, and that its example answers so. */
final class ReadmeTest {
  private static final int METHODS = 35;
  private static final Pattern FACE = Pattern.compile("public int (\\w+)\\(([^)]*)\\);");
  /** An error begins a sentence of its promise. */
  private static final Pattern ERROR = Pattern.compile("[.;] (BEYOND|NONE|STATE|FULL|KIND)\\b");
  private static final Pattern EXAMPLE = Pattern.compile("doors\\.(\\w+)\\(([^)]*)\\);\\s*// (-?\\d+): ");

  public static void main(String[] args) throws IOException {
    String readme = Files.readString(Path.of("README.md"));
    String document = Files.readString(Path.of("../shared/DOC.md"));
    methods(readme, document);
    errors(readme);
    example(readme);
    tests(readme);
    Due.end();
  }

  private static void methods(String readme, String document) {
    int methods = 0;
    for (Matcher face = FACE.matcher(document); face.find();) {
      methods++;
      String call = face.group(1) + "(" + face.group(2).replaceAll("(int|long) ", "") + ")";
      Matcher row = Pattern.compile("(?m)^\\| `" + Pattern.quote(call) + "` \\| (.+) \\| (.+) \\|(.*)\\|$").matcher(readme);
      boolean stands = row.find();
      Due.due("README.md has a row of " + call, stands ? 1 : 0, 1);
      if (!stands) continue;
      String errors = String.join(", ", errorsOf(document, face.group(1)));
      Due.due("README.md: " + call + " answers " + errors, row.group(3).trim().equals(errors) ? 1 : 0, 1);
    }
    Due.due("methods of the face", methods, METHODS);
  }

  private static List<String> errorsOf(String document, String method) {
    int from = document.indexOf("`int " + method + "(");
    int to = document.indexOf("\n", from);
    List<String> errors = new ArrayList<>();
    for (Matcher error = ERROR.matcher(document.substring(from, to)); error.find();) {
      errors.add(error.group(1));
    }
    return errors;
  }

  private static void errors(String readme) {
    String[] errors = {"BEYOND", "NONE", "STATE", "FULL", "KIND"};
    for (int k = 1; k <= errors.length; k++) {
      String row = "| " + errors[k - 1] + " | LOW - " + k + " | ";
      Due.due("README.md has a row of " + errors[k - 1], readme.contains(row) ? 1 : 0, 1);
    }
  }

  private static void example(String readme) {
    Doors doors = new Doors();
    for (Matcher example = EXAMPLE.matcher(readme); example.find();) {
      String[] words = example.group(2).isEmpty() ? new String[0] : example.group(2).split(", ");
      long[] a = new long[words.length];
      for (int i = 0; i < a.length; i++) {
        a[i] = Long.decode(words[i].replace("L", ""));
      }
      Due.due(Doors.words(example.group(1), a), doors.call(example.group(1), a), Long.parseLong(example.group(3)));
    }
    Due.due("calls of the example", doors.calls(), 7);
  }

  /** Each test stands in a row of its own. */
  private static void tests(String readme) throws IOException {
    try (var files = Files.list(Path.of("src/test/java"))) {
      for (Path file : files.filter(f -> f.toString().endsWith("Test.java")).toList()) {
        String test = file.getFileName().toString().replace(".java", "");
        Due.due("README.md has a row of " + test, readme.contains("| " + test + " | ") ? 1 : 0, 1);
      }
    }
  }
}
