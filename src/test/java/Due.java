import java.io.IOException;
import java.io.UncheckedIOException;
import java.nio.file.Files;
import java.nio.file.Path;

/** What the tests have in common: answers that are due, the document's sentences, and texts that are fed. */
final class Due {
  static final int BEYOND = -1000000001;
  static final int NONE = -1000000002;
  static final int STATE = -1000000003;
  static final int FULL = -1000000004;
  static final int KIND = -1000000005;

  private static int asked = 0;
  private static int wrong = 0;
  private static String document = "";
  private static String sentence = "";

  private Due() {
  }

  static void due(String call, long got, long want) {
    asked++;
    if (got != want) {
      wrong++;
      String where = sentence.isEmpty() ? "" : "\"" + sentence + "\": ";
      System.out.println(where + call + " answered " + got + ", due is " + want);
    }
  }

  /** The answers that follow are due by this sentence, which stands in the document word by word. */
  static void sentence(String words) {
    sentence = words;
    if (document.isEmpty()) document = documentOnOneLine();
    due("the sentence stands in the document", document.contains(words) ? 1 : 0, 1);
  }

  /** A sentence whose case no object comes to within its 512 calls; why stands beside it. */
  static void cannotBeReached(String words, String why) {
    sentence(words);
    due("why it can't be reached is told", why.isEmpty() ? 0 : 1, 1);
  }

  private static String documentOnOneLine() {
    try {
      return Files.readString(Path.of("../shared/DOC.md")).replaceAll("\\s+", " ");
    } catch (IOException e) {
      throw new UncheckedIOException(e);
    }
  }

  /** Ends the test; the exit code is 1 if an answer was not as due. */
  static void end() {
    System.out.println(asked + " answers, " + wrong + " not as due");
    if (wrong > 0) System.exit(1);
  }

  static int wrongs() {
    return wrong;
  }

  /** Feeds a text byte by byte to the tape: how many bytes there are. */
  static int feed(Doors x, String text) {
    int fed = x.count(5);
    for (int i = 0; i < text.length(); i++) {
      fed = x.feed(text.charAt(i), 1);
    }
    return fed;
  }

  /** Feeds a text that is one of a use, and reads it. */
  static void law(Doors x, int use, String text) {
    due("text(" + use + ") of " + text, text(x, use, text), 1);
  }

  /** Feeds a text, and reads it as one of a use. */
  static int text(Doors x, int use, String text) {
    feed(x, text);
    return x.text(use);
  }
}
