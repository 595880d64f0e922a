/**
 * No call throws, for any arguments: every act with all that can be made of a few numbers from end to end of the ints, on
 * objects in which nothing, something and all there can be is held. The model tells what is due.
 */
final class ExtremesTest {
  private static final long[] NUMBERS = {
    Integer.MIN_VALUE, Due.BEYOND, -1, 0, 1, 7, 42, 401, Integer.MAX_VALUE};
  /** Acts with five arguments are tried with fewer numbers. */
  private static final long[] FEW = {Integer.MIN_VALUE, -1, 0, 7, Integer.MAX_VALUE};
  private static final int MOST_CALLS = 500;

  private static final String[] BY_ARGUMENTS = {
    "visit image restore",
    "text days loose thenPurse often dear seed trace knives tell check count told",
    "ofKnife become as gains set feed still line",
    "knife change turn then least voice sheet put",
    "hand",
    "law move"};

  private interface Start {
    Doors made();
  }

  private final String act;
  private final Start start;
  private Doors doors;
  private Model model;

  private ExtremesTest(String act, Start start) {
    this.act = act;
    this.start = start;
    begin();
  }

  public static void main(String[] args) {
    Start[] starts = {Doors::new, Whole::begun, Whole::full};
    for (Start start : starts) {
      for (int arguments = 0; arguments < BY_ARGUMENTS.length; arguments++) {
        for (String act : BY_ARGUMENTS[arguments].split(" ")) {
          new ExtremesTest(act, start).tries(new long[arguments], 0);
        }
      }
    }
    words();
    Due.end();
  }

  /** A word has more numbers than an int. */
  private static void words() {
    long[] words = {Long.MIN_VALUE, Long.MAX_VALUE, -1L, 0x8000000000L, 0xff00ff00ff00ff00L};
    for (long word : words) {
      Doors x = new Doors();
      Model m = new Model();
      for (int n = -1; n <= 9; n++) {
        Due.due("feed(" + word + ", " + n + ")", x.feed(word, n), m.answer("feed", word, n));
        Due.due("text(1)", x.text(1), m.answer("text", 1));
      }
    }
  }

  private void tries(long[] a, int place) {
    if (place == a.length) {
      call(a);
      return;
    }
    for (long v : a.length >= 5 ? FEW : NUMBERS) {
      a[place] = v;
      tries(a, place + 1);
    }
  }

  private void call(long[] a) {
    if (doors.calls() >= MOST_CALLS) begin();
    Due.due(Doors.words(act, a), doors.call(act, a.clone()), model.answer(act, a));
  }

  private void begin() {
    doors = start.made();
    model = doors.asModel();
  }
}
