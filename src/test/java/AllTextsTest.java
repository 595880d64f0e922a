/** All texts of a few signs, whose faults and laws are told as by the model. */
final class AllTextsTest {
  private static final int MOST_CALLS = 500;
  /** What a text takes: its words, text() and law(). */
  private static final int CALLS_OF_A_TEXT = 9;

  private final int use;
  private final String signs;
  private Doors doors = new Doors();
  private final Model model = new Model();

  private AllTextsTest(int use, String signs) {
    this.use = use;
    this.signs = signs;
  }

  public static void main(String[] args) {
    int more = args.length > 0 ? Integer.parseInt(args[0]) : 0;
    new AllTextsTest(0, "um1!()<=+*|&").tries("", 5 + more);
    new AllTextsTest(1, "b!()-").tries("", 8 + more);
    new AllTextsTest(1, "9!)%").tries("((((", 7 + more);
    new AllTextsTest(0, "10>/(").tries("", 7 + more);
    Due.end();
  }

  /** The text, and all that begin so; none goes on from a fault ahead of the last sign. */
  private void tries(String text, int more) {
    int answer = answer(text);
    boolean isLost = answer <= -10 && -10 - answer < text.length();
    if (more == 0 || isLost) return;
    for (int i = 0; i < signs.length(); i++) {
      tries(text + signs.charAt(i), more - 1);
    }
  }

  private int answer(String text) {
    if (doors.calls() + CALLS_OF_A_TEXT > MOST_CALLS) doors = new Doors();
    for (int from = 0; from < text.length(); from += 8) {
      int n = Math.min(8, text.length() - from);
      long word = 0;
      for (int i = n - 1; i >= 0; i--) {
        word = word << 8 | text.charAt(from + i);
      }
      doors.feed(word, n);
      model.answer("feed", word, n);
    }
    int due = model.answer("text", use);
    Due.due("text(" + use + ") of " + text, doors.text(use), due);
    if (due == 1) {
      int gives = model.answer("law", use, 3, 5, 7, -4);
      Due.due("law(" + use + ", 3, 5, 7, -4) of " + text, doors.law(use, 3, 5, 7, -4), gives);
    }
    return due;
  }
}
