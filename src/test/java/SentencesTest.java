import java.io.IOException;
import java.nio.file.Files;
import java.nio.file.Path;
import java.util.ArrayList;
import java.util.Arrays;
import java.util.List;
import java.util.regex.Matcher;
import java.util.regex.Pattern;
import java.util.stream.Stream;

/** That no sentence of the terms and of promises 1 to 36 is without tests: those of EdgesOf.. name theirs, word by word. */
final class SentencesTest {
  private static final int PROMISES = 36;
  /** What may stand between two sentences that are named: the name of what they tell of, or an and. */
  private static final int FEW_WORDS = 50;
  private static final Pattern NAMED = Pattern.compile(
      "\\b(?:sentence|cannotBeReached|part|sets)\\(\\s*((?:\"(?:[^\"\\\\]|\\\\.)*\"\\s*\\+?\\s*)+)");
  private static final Pattern LITERAL = Pattern.compile("\"((?:[^\"\\\\]|\\\\.)*)\"");

  public static void main(String[] args) throws IOException {
    String document = Files.readString(Path.of("../shared/DOC.md")).replaceAll("\\s+", " ");
    boolean[] isNamed = new boolean[document.length()];
    for (String sentence : sentences()) {
      int at = document.indexOf(sentence);
      Due.due("a sentence of the document: " + sentence, at >= 0 ? 1 : 0, 1);
      while (at >= 0) {
        Arrays.fill(isNamed, at, at + sentence.length(), true);
        at = document.indexOf(sentence, at + 1);
      }
    }
    terms(document, isNamed);
    for (int promise = 1; promise <= PROMISES; promise++) {
      promise(document, isNamed, promise);
    }
    Due.end();
  }

  private static List<String> sentences() throws IOException {
    List<String> found = new ArrayList<>();
    try (Stream<Path> files = Files.list(Path.of("src/test/java"))) {
      for (Path file : files.filter(f -> f.getFileName().toString().startsWith("EdgesOf")).sorted().toList()) {
        Matcher named = NAMED.matcher(Files.readString(file));
        while (named.find()) {
          StringBuilder sentence = new StringBuilder();
          Matcher literal = LITERAL.matcher(named.group(1));
          while (literal.find()) {
            sentence.append(literal.group(1));
          }
          found.add(sentence.toString());
        }
      }
    }
    return found;
  }

  private static void terms(String document, boolean[] isNamed) {
    int from = document.indexOf("ERRORS are answers");
    int to = document.indexOf("Ahead of the calls `knife`");
    Due.due("the terms stand there", from >= 0 && to > from ? 1 : 0, 1);
    named("terms", document, isNamed, from, to);
  }

  private static void promise(String document, boolean[] isNamed, int promise) {
    int heading = document.indexOf("## Promise " + promise + ":");
    int from = document.indexOf(")`: ", heading) + 4;
    int to = document.indexOf(" ## ", from);
    Due.due("promise " + promise + " stands there", heading >= 0 && to > from ? 1 : 0, 1);
    named("promise " + promise, document, isNamed, from, to);
    int names = 0;
    for (int i = from; i < to; i++) {
      if (isNamed[i]) names++;
    }
    Due.due("promise " + promise + " is named by a test", names > 0 ? 1 : 0, 1);
  }

  /** No more than a few words in a row are named by no test. */
  private static void named(String where, String document, boolean[] isNamed, int from, int to) {
    int since = from;
    for (int i = from; i < to; i++) {
      if (isNamed[i]) since = i + 1;
      if (i - since == FEW_WORDS) {
        Due.due(where + ": no test for what begins: " + document.substring(since, i), 0, 1);
      }
    }
  }
}
