import java.util.ArrayList;
import java.util.List;

/** All that can be seen of an object by its calls; and objects in which nothing, or all, is as at first. */
final class Whole {
  private static final int ERRORS = 5;

  private final Doors x;
  private final List<String> seen = new ArrayList<>();

  private Whole(Doors x) {
    this.x = x;
  }

  /** Two objects answer alike; but for told(k), which tells one more of the first (k 0: of none). */
  static void same(String call, Doors is, Doors due, int k) {
    List<String> found = seen(is);
    List<String> wanted = due.seen();
    for (int i = 0; i < ERRORS; i++) {
      int told = Integer.parseInt(wanted.get(i)) + (i + 1 == k ? 1 : 0);
      Due.due(call + " then told(" + (i + 1) + ")", Integer.parseInt(found.get(i)), told);
    }
    int as = ERRORS;
    while (as < found.size() && as < wanted.size() && found.get(as).equals(wanted.get(as))) {
      as++;
    }
    boolean isSame = as == found.size() && as == wanted.size();
    Due.due(isSame ? call : call + " then " + found.subList(as, Math.min(as + 1, found.size())), isSame ? 1 : 0, 1);
  }

  /** What an object answers to calls for all there is; it is spent then. */
  static List<String> seen(Doors x) {
    Whole w = new Whole(x);
    for (int k = 1; k <= ERRORS; k++) {
      w.seen.add("" + x.told(k));
    }
    w.state();
    w.trace();
    w.shapes();
    w.waits();
    int kept = w.ask("restore");
    if (kept >= 0) {
      w.state();
      w.waits();
    }
    w.numbers(kept >= 0);
    w.ask("image");
    return w.seen;
  }

  private int ask(String act, long... a) {
    int answer = x.call(act, a);
    seen.add(Doors.words(act, a) + " = " + answer);
    return answer;
  }

  private void state() {
    for (int what = 0; what <= 8; what++) {
      if (what != 7) ask("count", what);
    }
    int knives = x.count(1);
    for (int knife = 0; knife < knives; knife++) {
      for (int what = 0; what <= 9; what++) {
        ask("ofKnife", knife, what);
      }
    }
    for (int what = 0; what <= 6; what++) {
      x.set(what, ask("set", what, 1));
    }
    laws();
    ask("thenPurse", 100);
    ask("dear", 30);
    ask("still", 0, 100);
    ask("least", 0, 50, -1);
    ask("hand", 0, 60, 200, -1);
    ask("line", 0, 1);
  }

  private void laws() {
    ask("law", 0, 1, 29, 150, 4);
    ask("law", 0, 3, 60, 201, 7);
    ask("law", 1, 40, 0, 4, 2);
    ask("law", 1, 12, 1, 20, 5);
  }

  private void trace() {
    int bodies = ask("count", 7);
    for (int i = 0; i <= bodies; i++) {
      ask("trace", i);
    }
  }

  /** Which sheets are missing, which are of like bits, how many numbers each has. */
  private void shapes() {
    for (int sheet = 0; sheet < 4; sheet++) {
      for (int other = sheet + 1; other < 4; other++) {
        ask("move", sheet, 0, other, 0, 0);
      }
      int size = 0;
      while (size <= 41 && x.move(sheet, size, sheet, size, 0) == 0) {
        size++;
      }
      seen.add("size of " + sheet + " = " + size);
    }
  }

  /** The numbers that wait, if they were right for knife 0; the tape, if it holds a text. */
  private void waits() {
    ask("check", 0);
    ask("text", 0);
    laws();
  }

  /** The numbers of the sheets, as far as they are threes and there is room for knives. */
  private void numbers(boolean isKept) {
    for (int sheet = 0; sheet < 4; sheet++) {
      if (isKept) x.restore();
      int from = x.count(1);
      int came = ask("knives", sheet);
      for (int knife = from; knife < from + came; knife++) {
        int km = 10 * x.ofKnife(knife, 0) + x.ofKnife(knife, 1);
        int cu = 10 * x.ofKnife(knife, 6) + x.ofKnife(knife, 7);
        seen.add("knife " + knife + " from sheet " + sheet + " = " + km + ", " + x.ofKnife(knife, 2) + ", " + cu);
      }
    }
  }

  // ---- objects to begin with

  /** An object in which nothing is as at first, and nothing is full: knives 0 to 2, sheet 3 missing, day 5. */
  static Doors begun() {
    Doors x = new Doors();
    x.knife(14, 1, 31);
    x.knife(25, 2, 12);
    int[] sets = {2, 3, 0, 4, 6, 7, 2};
    for (int what = 0; what < sets.length; what++) {
      x.set(what, sets[what]);
    }
    Due.law(x, 0, "s<30");
    Due.law(x, 1, "b+n*9>20");
    x.days(2);
    x.tell(x.then(1, 0, 3));
    x.feed('t' + ('%' << 8) + ('4' << 16), 3);
    x.image();
    x.image();
    x.knife(36, 3, 23);
    x.check(0);
    x.text(1);
    Due.law(x, 0, "m-3");
    Due.law(x, 1, "b-n*9>10");
    for (int what = 0; what < sets.length; what++) {
      x.set(what, sets[what] + 1);
    }
    x.loose(3);
    x.change(0, 5, 33);
    x.change(1, 5, 44);
    x.turn(2, 1, 2);
    sheets(x);
    x.voice(1, 3, 5);
    x.tell(x.then(1, 0, 3));
    x.tell(x.then(2, 0, 3));
    x.feed('u' + ('*' << 8) + ('2' << 16), 3);
    return x;
  }

  private static void sheets(Doors x) {
    int[] numbers = {47, 4, 52, 8, 0, 13, 69, 5, 93};
    x.sheet(0, 8, 6);
    x.sheet(1, 16, 9);
    x.sheet(2, 32, 3);
    for (int i = 0; i < 9; i++) {
      if (i < 6) x.put(0, i, numbers[i] - (i == 0 ? 7 : 0));
      x.put(1, i, numbers[i]);
      if (i < 3) x.put(2, i, numbers[i] - (i == 0 ? 9 : 0));
    }
  }

  /** As begun(), but nothing more goes in: 8 knives, 50 bytes, 20 numbers that wait, day 9999. */
  static Doors full() {
    Doors x = begun();
    for (int i = 3; i < 8; i++) {
      x.knife(i, i % 6, 10 * i);
    }
    x.days(394);
    for (int i = 0; i < 24; i++) {
      x.days(400);
    }
    for (int i = 0; i < 5; i++) {
      x.feed(0x3131312b3131312bL, 8);
    }
    x.feed(0x31312b3131312bL, 7);
    x.check(0);
    for (int i = 1; i <= 20; i++) {
      x.tell(x.then(i, 0, 3));
    }
    return x;
  }
}
