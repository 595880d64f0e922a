/** The sentences about images, and about what is told: promises 31 to 36. */
final class EdgesOfImagesTest {
  private static final int MIN = Integer.MIN_VALUE;
  private static final int MAX = Integer.MAX_VALUE;

  public static void main(String[] args) {
    allIsKept();
    notKept();
    inPlaceOfOneAhead();
    howOften();
    emptyAndFull();
    restore();
    twentyWait();
    tell();
    noneWait();
    placeOfTheFirst();
    beyondTheKnives();
    check();
    leastCounts();
    mostCounts();
    count();
    counted();
    told();
    Due.end();
  }

  /** Changes all that an image keeps, and nothing else. */
  private static void spoil(Doors x) {
    x.text(0);
    Due.law(x, 0, "9");
    Due.law(x, 1, "0");
    x.feed('t', 1);
    x.check(0);
    x.tell(1);
    for (int what = 0; what < 7; what++) {
      x.set(what, 9);
    }
    x.knife(0, 0, 0);
    x.loose(40);
    x.visit();
    x.seed(99);
    for (int knife = 0; knife < 2; knife++) {
      x.turn(knife, 0, 20);
      x.become(knife, 0);
      for (int what = 2; what < 8; what++) {
        x.change(knife, what, 0);
      }
    }
  }

  private static void allIsKept() {
    Due.sentence("All (but SHEETS, THE TRACE, what told() tells, and how often this was done) is kept as an IMAGE, in place of one ahead:"
        + " how often that was done.");
    Doors due = Whole.begun();
    due.image();
    Doors is = due.again();
    spoil(is);
    Due.due("restore()", is.restore(), 5);
    Whole.same("all that was spoilt is as the image has it:", is, due, 0);
    // another image is in place of it, and has what was spoilt
    Doors spoilt = due.again();
    spoil(spoilt);
    spoilt.image();
    Doors back = spoilt.again();
    back.days(1);
    back.become(0, 55);
    Due.due("restore()", back.restore(), 45);
    Whole.same("what was spoilt is kept in place of it:", back, spoilt, 0);
  }

  private static void notKept() {
    Due.sentence("All (but SHEETS, THE TRACE, what told() tells, and how often this was done) is kept as an IMAGE");
    Doors x = new Doors();
    x.knife(60, 0, 0);
    x.sheet(0, 8, 3);
    x.sheet(1, 16, 6);
    x.voice(0, 3, 1);
    x.count(9);
    x.image();
    x.sheet(0, 32, 6);
    x.put(0, 0, 15);
    x.sheet(1, 0, 0);
    x.sheet(2, 8, 9);
    x.voice(0, 0, 1);
    x.count(9);
    x.trace(5);
    x.image();
    x.restore();
    x.tells(1, "count", 7);
    x.tells(10, "trace", 0);
    x.tells(2, "told", 1);
    x.tells(1, "told", 2);
    x.takes(2, "knives", 0).tells(5, "ofKnife", 1, 1);
    x.refuses(Due.NONE, "knives", 1);
    x.takes(3, "knives", 2);
    x.takes(3, "image");
  }

  private static void inPlaceOfOneAhead() {
    Due.sentence("is kept as an IMAGE, in place of one ahead: how often that was done.");
    Doors x = new Doors();
    x.knife(11, 1, 11);
    x.image();
    x.knife(22, 2, 22);
    x.days(3);
    x.image();
    x.knife(33, 3, 33);
    x.days(3);
    Due.due("restore()", x.restore(), 3);
    x.tells(2, "count", 1);
    x.tells(2, "ofKnife", 1, 0);
  }

  private static void howOften() {
    Due.sentence("how often that was done.");
    Doors x = new Doors();
    for (int i = 1; i <= 250; i++) {
      Due.due("image()", x.image(), i);
      Due.due("restore()", x.restore(), 0);
    }
    new Doors().takes(1, "image").takes(2, "image");
  }

  private static void emptyAndFull() {
    Due.sentence("All is as the IMAGE has it, which stays: DAY.");
    Doors empty = new Doors();
    empty.image();
    Doors filled = empty.again();
    Doors full = Whole.full();
    full.image();
    for (int i = 0; i < 8; i++) {
      filled.knife(69, 5, 93);
    }
    Due.feed(filled, "b+b+b+b+b+b+b+b+b+b+b+b+b+b+b+b+b+b+b+b+b+b+b+b+b");
    for (int i = 0; i < 20; i++) {
      filled.tell(i);
    }
    filled.days(400);
    Due.due("restore()", filled.restore(), 0);
    Whole.same("an image of nothing:", filled, empty, 0);
    // knives that come behind an image of none are new
    Doors newer = filled.again();
    newer.visit();
    newer.restore();
    int[] made = {0, 0, 0, 60, 200, 0, 0, 0, 0, 1};
    for (int knife = 0; knife < 8; knife++) {
      Due.due("knife()", newer.knife(0, 0, 0), knife);
      for (int what = 0; what < made.length; what++) {
        Due.due("ofKnife(" + knife + ", " + what + ")", newer.ofKnife(knife, what), made[what]);
      }
    }
    Doors emptied = full.again();
    emptied.check(0);
    emptied.text(0);
    for (int i = 0; i < 6; i++) {
      emptied.feed(0x2828282828282828L, 8);
    }
    emptied.feed(0x2828, 2);
    for (int i = 0; i < 20; i++) {
      emptied.tell(-1);
    }
    Due.due("restore()", emptied.restore(), 9999);
    Whole.same("an image of all there can be:", emptied, full, 0);
    full.tells(9999, "count", 0);
  }

  private static void restore() {
    Due.sentence("All is as the IMAGE has it, which stays: DAY. NONE: there is none.");
    new Doors().refuses(Due.NONE, "restore");
    Doors x = new Doors();
    x.knife(0, 0, 0);
    x.days(5);
    x.refuses(Due.NONE, "restore");
    x.restore();
    x.tells(5, "count", 0);
    x.image();
    x.takes(5, "restore").takes(5, "restore");
    x.days(400);
    x.takes(5, "restore").tells(5, "count", 0);
  }

  private static void twentyWait() {
    Due.sentence("One more number waits: how many. FULL: 20 wait.");
    Doors x = new Doors();
    x.knife(0, 0, 0);
    for (int i = 1; i <= 20; i++) {
      Due.due("tell(60)", x.tell(60), i);
      x.tells(i, "count", 6);
    }
    x.refuses(Due.FULL, "tell", 60);
    x.refuses(Due.FULL, "tell", MIN);
    x.takes(0, "check", 0).takes(1, "tell", 60);
    x.tells(20, "count", 6);
  }

  private static void tell() {
    Due.sentence("One more number waits: how many. FULL: 20 wait.");
    int[] any = {MIN, -1, 0, 99, 100, -1000000001, MAX};
    for (int v : any) {
      Doors x = new Doors();
      x.knife(0, 0, 0);
      Due.due("tell(" + v + ")", x.tell(v), 1);
      Due.due("check(0)", x.check(0), 1);
    }
    // knives aren't needed to tell
    new Doors().takes(1, "tell", 5).tells(1, "count", 6);
  }

  private static void noneWait() {
    Due.sentence("The numbers that wait (none do then) are how SHARP a KNIFE is behind 1, 2, .. DAYS AHEAD: 0;");
    Doors x = new Doors();
    x.knife(0, 0, 10);
    x.knife(0, 0, 20);
    Due.law(x, 1, "0");
    x.takes(0, "check", 0).tells(0, "count", 6);
    for (int waiting = 1; waiting <= 20; waiting++) {
      x.tell(60 - waiting);
      x.takes(0, "check", 0).tells(0, "count", 6);
      x.takes(1, "check", 1).tells(0, "count", 6);
    }
    // no day goes by, none is drawn, and none is kept for the next check
    Doors y = new Doors();
    y.knife(0, 0, 10);
    y.knife(0, 0, 20);
    Due.law(y, 1, "0");
    Whole.same("only that none wait:", x.takes(0, "check", 0), y, 0);
    x.check(1);
    x.takes(0, "check", 1);
    // sharp 0 stays 0; on day 0 there may be a visit
    Doors z = new Doors();
    z.knife(0, 0, 90);
    z.change(0, 3, 0);
    z.tell(8 + 6 + 4 + 2 - 9);
    z.tell(2);
    z.tell(0);
    z.tell(0);
    z.takes(0, "check", 0);
  }

  private static void placeOfTheFirst() {
    Due.sentence("else 1 and the place (from 0) of the first that isn't so.");
    for (int place = 0; place < 20; place++) {
      Doors x = new Doors();
      x.knife(0, 0, 10);
      Due.law(x, 1, "0");
      for (int i = 0; i < 20; i++) {
        x.tell(i == place || i > place && i % 2 == 0 ? 60 - i : 59 - i);
      }
      x.takes(1 + place, "check", 0).tells(0, "count", 6);
    }
  }

  private static void beyondTheKnives() {
    Due.sentence("BEYOND (none wait then, too).");
    int[] none = {-1, 3, 8, MIN, MAX};
    for (int knife : none) {
      Doors is = Whole.begun();
      Doors due = Whole.begun();
      Due.due("check(" + knife + ")", is.check(knife), Due.BEYOND);
      due.check(0);
      Whole.same("none wait, but all else is as it was:", is, due, 1);
      // with none that wait
      due.refuses(Due.BEYOND, "check", knife);
    }
    Doors x = new Doors();
    for (int i = 0; i < 20; i++) {
      x.tell(i);
    }
    x.refuses(Due.FULL, "tell", 1);
    Due.due("check(0) without knives", x.check(0), Due.BEYOND);
    x.tells(0, "count", 6);
    x.takes(1, "tell", 1);
  }

  private static void check() {
    Due.sentence("The numbers that wait (none do then) are how SHARP a KNIFE is behind 1, 2, .. DAYS AHEAD: 0; else 1 and the place"
        + " (from 0) of the first that isn't so. BEYOND (none wait then, too).");
    Doors x = Whole.full();
    for (int knife = 0; knife <= 7; knife++) {
      Doors y = x.again();
      y.check(0);
      for (int i = 1; i <= 5; i++) {
        y.tell(x.again().then(i, knife, 3));
      }
      y.takes(0, "check", knife);
      y.tell(-1);
      y.takes(6, "check", knife);
    }
  }

  private static void leastCounts() {
    Due.sentence("0 DAY, 1 KNIVES, 2 PURSE, 3 STEEL of all, 4 GROUND of all, 5 bytes of THE TAPE, 6 numbers that wait,"
        + " 7 BODIES in THE TRACE, 8 z (any number).");
    Doors x = new Doors();
    for (int what = 0; what <= 8; what++) {
      x.tells(what == 8 ? 1 : 0, "count", what);
    }
    x.knife(0, 0, 0);
    x.tells(200, "count", 3);
    x.change(0, 4, 0);
    x.tells(0, "count", 3);
    x.seed(MIN);
    x.tells(MIN, "count", 8);
  }

  private static void mostCounts() {
    Due.sentence("0 DAY, 1 KNIVES, 2 PURSE, 3 STEEL of all, 4 GROUND of all, 5 bytes of THE TAPE, 6 numbers that wait,"
        + " 7 BODIES in THE TRACE, 8 z (any number).");
    Doors x = Whole.full();
    x.tells(9999, "count", 0);
    x.tells(8, "count", 1);
    x.tells(50, "count", 5);
    x.tells(20, "count", 6);
    for (int knife = 0; knife < 8; knife++) {
      x.change(knife, 4, 999);
    }
    x.tells(8 * 999, "count", 3);
    x.become(0, 60);
    x.voice(0, 3, 0);
    x.tells(9, "count", 7);
    x.seed(MAX);
    x.tells(MAX, "count", 8);
    Doors y = new Doors();
    for (int i = 0; i < 8; i++) {
      y.knife(0, 0, 0);
    }
    Due.law(y, 1, "1");
    y.set(5, 20);
    y.visit();
    y.visit();
    y.tells(320, "count", 2);
    y.tells(16, "count", 4);
  }

  private static void count() {
    Due.sentence("8 z (any number). BEYOND.");
    Doors x = Whole.begun();
    x.range(0, 8, 0, "count", 0);
    x.seed(-1000000001);
    x.tells(-1000000001, "count", 8);
    new Doors().refusesBeyond(0, 8, 0, "count", 0);
  }

  private static void counted() {
    Due.sentence("How many acts have answered an ERROR LOW - k (k 1 .. 5); BEYOND: another k (counted, too).");
    Doors x = new Doors();
    x.knife(0, 0, 0);
    for (int i = 1; i <= 20; i++) {
      Due.due("told(6)", x.told(6), Due.BEYOND);
      Due.due("told(1)", x.told(1), i);
      x.restore();
      Due.due("told(2)", x.told(2), i);
      x.sheet(0, 8, -1);
      Due.due("told(3)", x.told(3), i);
      x.as(0, 1);
      Due.due("told(5)", x.told(5), i);
      x.tell(0);
    }
    x.tell(0);
    Due.due("told(4)", x.told(4), 1);
    Due.due("told(0)", x.told(0), Due.BEYOND);
    int[] due = {21, 20, 20, 1, 20};
    for (int k = 1; k <= 5; k++) {
      x.tells(due[k - 1], "told", k);
    }
  }

  private static void told() {
    Due.sentence("How many acts have answered an ERROR LOW - k (k 1 .. 5); BEYOND: another k (counted, too).");
    Doors x = Whole.begun();
    x.range(1, 5, 0, "told", 1);
    x.refuses(Due.BEYOND, "told", 0);
    new Doors().range(1, 5, 0, "told", 1);
  }
}
