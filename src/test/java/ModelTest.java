import java.util.Arrays;
import java.util.Random;

/** All promises: long runs of calls, always the same ones, answered by the class and by the model. */
final class ModelTest {
  private static final String[] ACTS = {
    "knife", "ofKnife", "change", "become", "as", "gains", "turn", "set", "feed", "text", "law", "visit", "days", "loose",
    "then", "thenPurse", "often", "dear", "still", "least", "line", "hand", "seed", "voice", "trace", "sheet", "put",
    "move", "knives", "image", "restore", "tell", "check", "count", "told"};

  private static final long[] EXTREMES = {
    Integer.MIN_VALUE, Integer.MIN_VALUE + 1, -1000000001, -101, -100, -10, -1, 0, 1, 4, 8, 10, 41, 100, 256, 401, 1000,
    1 << 30, Integer.MAX_VALUE - 1, Integer.MAX_VALUE};

  private final Random random;
  private final Doors doors = new Doors();
  private final Model model = new Model();
  private final int run;
  private int calls = 0;

  private ModelTest(int run) {
    this.run = run;
    random = new Random(run);
  }

  public static void main(String[] args) {
    int runs = args.length > 0 ? Integer.parseInt(args[0]) : 120;
    int from = args.length > 1 ? Integer.parseInt(args[1]) : 0;
    for (int run = from; run < from + runs && Due.wrongs() < 20; run++) {
      new ModelTest(run).goes();
    }
    Due.end();
  }

  private void goes() {
    for (int i = number(3, 8); i > 0; i--) {
      call("knife", number(0, 69), number(0, 5), 10 * number(0, 2) + number(0, 3));
    }
    while (calls < 430 && Due.wrongs() < 20) {
      int choice = number(0, 99);
      if (choice < 6) {
        feeds();
      } else if (choice < 9) {
        tells();
      } else if (choice < 12) {
        sheets();
      } else if (choice < 14) {
        hands();
      } else if (choice < 18) {
        ofAll();
      } else {
        any();
      }
    }
    for (int k = 1; k <= 5; k++) {
      call("told", k);
    }
    for (int what = 0; what <= 8; what++) {
      call("count", what);
    }
  }

  private void any() {
    String act = ACTS[number(0, ACTS.length - 1)];
    boolean isDear = act.equals("often") || act.equals("dear");
    if (isDear && number(0, 3) > 0) return;
    if (act.equals("restore") && number(0, 2) > 0) return;
    long[] a = arguments(act);
    if (a.length > 0 && number(0, 19) == 0) a[number(0, a.length - 1)] = EXTREMES[number(0, EXTREMES.length - 1)];
    call(act, a);
  }

  private void ofAll() {
    for (int knife = 0; knife < model.owned.size(); knife++) {
      call("ofKnife", knife, number(0, 9));
      call("voice", knife, number(0, 3), wide());
      call("trace", number(-1, 9));
    }
  }

  private void tells() {
    int knife = knife();
    boolean isRight = number(0, 2) > 0;
    int most = number(0, 21);
    for (int i = 1; i <= most; i++) {
      int sharp = call("then", i, knife, 3);
      call("tell", isRight || number(0, 9) > 0 ? sharp : number(0, 99));
    }
    call("check", knife);
  }

  private void sheets() {
    int sheet = number(0, 3);
    call("sheet", sheet, new int[] {8, 16, 32}[number(0, 2)], number(0, 14));
    int most = number(0, 14);
    for (int i = 0; i < most; i++) {
      int v = i % 3 == 0 ? number(0, 71) : i % 3 == 1 ? number(0, 5) : 10 * number(0, 9) + number(0, 3);
      call("put", sheet, i, v + (number(0, 3) == 0 ? 256 * number(-300, 300) : 0));
    }
    if (number(0, 1) == 0) call("move", sheet, 3 * number(0, 2), sheet, 3 * number(0, 2), number(0, 7));
    call("knives", sheet);
  }

  private void hands() {
    int knife = knife();
    int sharp = call("ofKnife", knife, 3);
    int steel = call("ofKnife", knife, 4);
    call("change", knife, 5, 0);
    for (int stone = 0; stone < 4; stone++) {
      call("turn", knife, stone, number(0, 4));
    }
    for (int what = -1; what < 4; what++) {
      call("hand", knife, sharp, steel, what);
    }
  }

  private void feeds() {
    int use = number(0, 1);
    String text = limited(number(0, 4) == 0 ? noise() : text(use, number(1, 4)));
    if (number(0, 3) == 0 && !text.isEmpty()) text = spoilt(text);
    for (int i = 0; i < text.length();) {
      int n = Math.min(number(1, 8), text.length() - i);
      long word = 0;
      for (int j = n - 1; j >= 0; j--) {
        word = word << 8 | text.charAt(i + j);
      }
      call("feed", number(0, 1) == 0 || n == 8 ? word : word | random.nextLong() << 8 * n, n);
      i += n;
    }
    call("text", number(0, 9) == 0 ? number(-1, 2) : use);
    for (int i = 0; i < 3; i++) {
      call("law", use, wide(), wide(), wide(), wide());
    }
  }

  private static String limited(String text) {
    return text.length() <= 50 ? text : text.substring(0, 50);
  }

  private String noise() {
    StringBuilder s = new StringBuilder();
    for (int i = number(0, 12); i > 0; i--) {
      s.append("ustmbnph0123456789|&<=>+-*/%!()!!((".charAt(number(0, 34)));
    }
    return s.toString();
  }

  private String spoilt(String text) {
    int at = number(0, text.length() - 1);
    String put = number(0, 2) == 0 ? "" : noise();
    return limited(text.substring(0, at) + put + text.substring(at + number(0, 1)));
  }

  private String text(int use, int deep) {
    String names = use == 0 ? "ustm" : "bnph";
    int choice = deep == 0 ? number(0, 1) : number(0, 9);
    if (choice == 0) return "" + number(0, number(0, 1) == 0 ? 9999 : 99);
    if (choice == 1) return "" + names.charAt(number(0, 3));
    if (choice == 2) return "!" + text(use, deep - 1);
    if (choice <= 4) return "(" + text(use, deep - 1) + ")";
    String sign = "" + "|&<=>+-*/%+-".charAt(number(0, 11));
    return text(use, deep - 1) + sign + text(use, deep - 1);
  }

  private int number(int least, int most) {
    return least + random.nextInt(most - least + 1);
  }

  private int wide() {
    int choice = number(0, 9);
    if (choice == 0) return random.nextInt();
    if (choice == 1) return new int[] {Integer.MIN_VALUE, Integer.MAX_VALUE, 0, -1, 1}[number(0, 4)];
    return number(-20, 120);
  }

  /** A number within bounds for the most part. */
  private int about(int least, int most) {
    int choice = number(0, 39);
    if (choice == 0) return least - 1;
    if (choice == 1) return most + 1;
    if (choice == 2) return least;
    if (choice == 3) return most;
    if (choice == 4) return wide();
    return number(least, most);
  }

  private int knife() {
    return about(0, Math.max(0, model.owned.size() - 1));
  }

  private int daysAhead() {
    return number(0, 3) == 0 ? about(0, 400) : about(0, 50);
  }

  private long[] arguments(String act) {
    switch (act) {
      case "knife": return new long[] {about(0, 69), about(0, 5), 10 * about(0, 9) + about(0, 3)};
      case "ofKnife": return new long[] {knife(), about(0, 9)};
      case "change": return changes();
      case "become": return new long[] {knife(), about(0, 69)};
      case "as": return new long[] {knife(), about(0, 6)};
      case "gains": return new long[] {knife(), about(0, 3)};
      case "turn": return new long[] {knife(), about(0, 3), number(0, 2) == 0 ? about(1, 60) : about(1, 9)};
      case "set": return sets();
      case "feed": return new long[] {random.nextLong(), about(1, 8)};
      case "text": return new long[] {about(0, 1)};
      case "law": return new long[] {about(0, 1), wide(), wide(), wide(), wide()};
      case "days":
      case "loose": return new long[] {number(0, 2) == 0 ? about(1, 400) : about(1, 30)};
      case "then": return new long[] {daysAhead(), knife(), about(0, 9)};
      case "thenPurse":
      case "often":
      case "dear": return new long[] {daysAhead()};
      case "still": return new long[] {knife(), about(0, 400)};
      case "least": return new long[] {knife(), about(0, 99), about(-1, 3)};
      case "line": return new long[] {knife(), about(0, 3)};
      case "hand": return new long[] {knife(), about(0, 99), about(0, 999), about(-1, 3)};
      default: return moreArguments(act);
    }
  }

  private long[] moreArguments(String act) {
    switch (act) {
      case "seed": return new long[] {wide()};
      case "voice": return new long[] {knife(), about(0, 3), wide()};
      case "trace": return new long[] {about(0, 9)};
      case "sheet": return new long[] {about(0, 3), new int[] {0, 8, 16, 32, 8, 16, 9}[number(0, 6)], about(0, 40)};
      case "put": return new long[] {about(0, 3), about(0, 9), wide()};
      case "move": return new long[] {about(0, 3), about(0, 6), about(0, 3), about(0, 6), about(0, 6)};
      case "knives": return new long[] {about(0, 3)};
      case "tell": return new long[] {wide()};
      case "check": return new long[] {knife()};
      case "count": return new long[] {about(0, 8)};
      case "told": return new long[] {about(1, 5)};
      default: return new long[0];
    }
  }

  private long[] changes() {
    int what = about(2, 7);
    int most = what >= 2 && what <= 7 ? new int[] {5, 99, 999, 99, 9, 3}[what - 2] : 9;
    if (what == 4 && number(0, 1) == 0) most = 40;
    return new long[] {knife(), what, about(0, most)};
  }

  private long[] sets() {
    int what = about(0, 6);
    return new long[] {what, about(what == 6 ? 1 : 0, what == 6 ? 12 : what == 5 ? 20 : 9)};
  }

  private int call(String act, long... a) {
    calls++;
    String call = "run " + run + ", call " + calls + ": " + act + Arrays.toString(a);
    int want = model.answer(act, a);
    Due.due(call, doors.call(act, a), want);
    return want;
  }
}
