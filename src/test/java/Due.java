/** What the tests have in common: answers that are due, and texts that are fed. */
final class Due {
  static final int BEYOND = -1000000001;
  static final int NONE = -1000000002;
  static final int STATE = -1000000003;
  static final int FULL = -1000000004;
  static final int KIND = -1000000005;

  private static int asked = 0;
  private static int wrong = 0;

  private Due() {
  }

  static void due(String call, long got, long want) {
    asked++;
    if (got != want) {
      wrong++;
      System.out.println(call + " answered " + got + ", due is " + want);
    }
  }

  /** Ends the test; the exit code is 1 if an answer was not as due. */
  static void end() {
    System.out.println(asked + " answers, " + wrong + " not as due");
    if (wrong > 0) System.exit(1);
  }

  static int wrongs() {
    return wrong;
  }

  /** Feeds a text byte by byte to the tape: how many bytes there are. */
  static int feed(KnifeDoors x, String text) {
    int fed = x.count(5);
    for (int i = 0; i < text.length(); i++) {
      fed = x.feed(text.charAt(i), 1);
    }
    return fed;
  }

  /** Feeds a text, and reads it as one of a use. */
  static int text(KnifeDoors x, int use, String text) {
    feed(x, text);
    return x.text(use);
  }
}
