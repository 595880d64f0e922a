/** The sentences about what knives and he are: term 1, and promises 1 to 7 and 9. */
final class EdgesOfKnivesTest {
  private static final int WEEKS = 6;
  private static final int WORN = 6;

  public static void main(String[] args) {
    newObject();
    houses();
    mostKnives();
    kindsAndM();
    sharp();
    steel();
    heat();
    cuts();
    use();
    ground();
    knife();
    ofKnife();
    change();
    become();
    as();
    gains();
    water();
    price();
    purse();
    weeks();
    recipe();
    set();
    Due.end();
  }

  private static void newObject() {
    Due.sentence("`KnifeDoors()`: All as at first; no KNIVES.");
    Doors x = new Doors();
    int[] counts = {0, 0, 0, 0, 0, 0, 0, 0, 1};
    for (int what = 0; what < counts.length; what++) {
      x.tells(counts[what], "count", what);
    }
    for (int k = 1; k <= 5; k++) {
      x.tells(0, "told", k);
    }
    for (int sheet = 0; sheet < 4; sheet++) {
      x.refuses(Due.NONE, "put", sheet, 0, 0);
      x.refuses(Due.NONE, "knives", sheet);
    }
    x.refuses(Due.NONE, "restore");
    x.refuses(Due.NONE, "trace", 0);
    x.refuses(Due.BEYOND, "ofKnife", 0, 0);
    x.takes(1, "image");
    x.takes(-10, "text", 0);
    x.takes(1, "seed", 0);
    x.tells(0, "law", 0, 9, 9, 9, 9);
    x.tells(99 + 10 - 20 - 30, "law", 1, 99, 1, 4, 5);
  }

  private static void houses() {
    Due.sentence("HOUSES 0 to 5 stand in a row.");
    Doors x = Whole.begun();
    x.refusesBeyond(0, 5, 1, "knife", 0, 0, 0);
    x.refusesBeyond(0, 5, 2, "change", 0, 2, 0);
    for (int house = 0; house <= 5; house++) {
      Due.due("house", x.takes(3, "knife", 0, house, 0).ofKnife(3, 2), house);
      Due.due("house", x.takes(1, "change", 0, 2, house).ofKnife(0, 2), house);
    }
    // one that is brought because of a neighbour: from house 5 to house 0 is no step
    for (int house = 1; house <= 5; house++) {
      Doors y = new Doors();
      y.knife(0, house, 0);
      y.knife(0, 0, 0);
      Due.law(y, 1, "h>0|n");
      Due.due("visit(), houses 0 and " + house, y.visit(), house == 1 ? 2 : 1);
    }
  }

  private static void mostKnives() {
    Due.sentence("KNIVES 0, 1, .. (at most 8)");
    Doors x = new Doors();
    x.refuses(Due.BEYOND, "ofKnife", 0, 0);
    for (int i = 0; i < 8; i++) {
      Due.due("knife()", x.knife(i, 0, 0), i);
      Due.due("ofKnife(" + i + ", 1)", x.ofKnife(i, 1), i);
      x.refuses(Due.BEYOND, "ofKnife", i + 1, 0);
    }
    x.refuses(Due.FULL, "knife", 0, 0, 0);
    x.refuses(Due.FULL, "knife", 69, 5, 93);
    x.tells(8, "count", 1);
  }

  private static void kindsAndM() {
    Due.sentence("0 EDGE; 1 KEEN, 2 COARSE, 3 BLUNT under EDGE; 4 BURNT under KEEN; 5 NICKED under COARSE; 6 WORN under BLUNT;"
        + " each with a number m (0 to 9)");
    Doors x = Whole.begun();
    for (int kind = 0; kind <= WORN; kind++) {
      for (int m = 0; m <= 9; m += 9) {
        Doors y = x.takes(3, "knife", 10 * kind + m, 0, 0);
        Due.due("kind", y.ofKnife(3, 0), kind);
        Due.due("m", y.ofKnife(3, 1), m);
        Doors z = x.takes(1, "become", 0, 10 * kind + m);
        Due.due("kind", z.ofKnife(0, 0), kind);
        Due.due("m", z.ofKnife(0, 1), m);
      }
    }
    x.refuses(Due.BEYOND, "knife", 70, 0, 0);
    x.refuses(Due.BEYOND, "knife", -1, 0, 0);
    x.refuses(Due.BEYOND, "become", 0, 70);
    x.refuses(Due.BEYOND, "become", 0, -1);
  }

  /** A part of a knife: what it is at first, and what it is changed to at least and at most. */
  private static void part(String sentence, int what, int first, int most) {
    Due.sentence(sentence);
    Doors x = new Doors();
    x.knife(0, 3, 52);
    x.tells(first, "ofKnife", 0, what);
    x.refusesBeyond(0, most, 2, "change", 0, what, 0);
    int[] taken = {0, 1, most - 1, most};
    for (int v : taken) {
      Doors y = x.takes(first, "change", 0, what, v);
      y.tells(v, "ofKnife", 0, what);
      y.refuses(Due.BEYOND, "change", 0, what, most + 1);
      y.refuses(Due.BEYOND, "change", 0, what, -1);
      y.takes(v, "change", 0, what, 0);
    }
  }

  private static void sharp() {
    part("SHARP (0 to 99; 60 at first)", 3, 60, 99);
  }

  private static void steel() {
    part("with STEEL (0 to 999; 200 at first)", 4, 200, 999);
    // STEEL that is changed, not ground away, leaves the edge as it is
    Doors x = new Doors();
    x.knife(0, 0, 0);
    x.change(0, 4, 0);
    x.tells(0, "ofKnife", 0, 0);
  }

  private static void heat() {
    part("HEAT (0 to 99; 0 at first)", 5, 0, 99);
    Doors x = new Doors();
    x.knife(0, 0, 0);
    x.change(0, 5, 99);
    x.tells(0, "ofKnife", 0, 0);
  }

  private static void cuts() {
    part("CUTS a day (0 to 9)", 6, 5, 9);
    Doors x = new Doors();
    for (int cuts = 0; cuts <= 9; cuts++) {
      Due.due("cuts", x.takes(0, "knife", 0, 0, 10 * cuts).ofKnife(0, 6), cuts);
    }
    x.refuses(Due.BEYOND, "knife", 0, 0, 100);
    x.refuses(Due.BEYOND, "knife", 0, 0, -10);
  }

  private static void use() {
    part("for a USE (0 bread, 1 meat, 2 bone, 3 string)", 7, 2, 3);
    Doors x = new Doors();
    for (int use = 0; use <= 9; use++) {
      if (use <= 3) {
        Due.due("use", x.takes(0, "knife", 0, 0, 90 + use).ofKnife(0, 7), use);
        Due.due("use", x.takes(0, "knife", 0, 0, use).ofKnife(0, 7), use);
      } else {
        x.refuses(Due.BEYOND, "knife", 0, 0, 90 + use);
        x.refuses(Due.BEYOND, "knife", 0, 0, use);
      }
    }
  }

  private static void ground() {
    Due.sentence("GROUND (how often; 9999 at most; 0 at first)");
    Doors x = new Doors();
    x.knife(0, 0, 0);
    x.tells(0, "ofKnife", 0, 8);
    Due.law(x, 1, "1");
    x.takes(1, "visit").tells(1, "ofKnife", 0, 8);
    Due.cannotBeReached("GROUND (how often; 9999 at most; 0 at first)",
        "up to day 9999 he comes 1,429 times at most, ahead of it 58 times more, and by visit() less than 512 times;"
            + " an image takes GROUND back with the day");
  }

  private static void knife() {
    Due.sentence("A KNIFE (km: 10 times the KIND, and m; cu: 10 times CUTS, and USE) in a HOUSE: its number. BEYOND. FULL.");
    Doors x = Whole.begun();
    x.range(0, 69, 0, "knife", 0, 0, 0);
    x.range(0, 5, 1, "knife", 0, 0, 0);
    x.range(0, 93, 2, "knife", 0, 0, 0);
    for (int cu = 0; cu <= 93; cu++) {
      if (cu % 10 > 3) x.refuses(Due.BEYOND, "knife", 0, 0, cu);
    }
    x.refuses(Due.BEYOND, "knife", 0, 0, -7);
    Doors most = x.takes(3, "knife", 69, 5, 93);
    int[] made = {6, 9, 5, 60, 200, 0, 9, 3, 0};
    for (int what = 0; what < made.length; what++) {
      Due.due("ofKnife(3, " + what + ")", most.ofKnife(3, what), made[what]);
    }
    Doors least = x.takes(3, "knife", 0, 0, 0);
    int[] none = {0, 0, 0, 60, 200, 0, 0, 0, 0};
    for (int what = 0; what < none.length; what++) {
      Due.due("ofKnife(3, " + what + ")", least.ofKnife(3, what), none[what]);
    }
    Whole.full().refuses(Due.FULL, "knife", 0, 0, 0);
  }

  private static void ofKnife() {
    Due.sentence("Of a KNIFE: 0 KIND, 1 m, 2 HOUSE, 3 SHARP, 4 STEEL, 5 HEAT, 6 CUTS, 7 USE, 8 GROUND, 9 DULLS. BEYOND.");
    Doors x = Whole.begun();
    x.range(0, 2, 0, "ofKnife", 0, 0);
    x.range(0, 9, 1, "ofKnife", 0, 0);
    for (int what = 0; what <= 9; what++) {
      x.tells(x.again().ofKnife(1, what), "ofKnife", 1, what);
    }
    Whole.full().range(0, 7, 0, "ofKnife", 0, 9);
    new Doors().refuses(Due.BEYOND, "ofKnife", 0, 0);
  }

  private static void change() {
    Due.sentence("HOUSE (what 2), SHARP (3), STEEL (4), HEAT (5), CUTS (6), USE (7) of a KNIFE becomes v: what it was."
        + " BEYOND: also another what.");
    Doors x = Whole.begun();
    int[] most = {5, 99, 999, 99, 9, 3};
    for (int what = 2; what <= 7; what++) {
      x.range(0, most[what - 2], 2, "change", 1, what, 0);
      x.refusesBeyond(0, 2, 0, "change", 0, what, 0);
    }
    x.range(2, 7, 1, "change", 0, 2, 0);
    int[] others = {Integer.MIN_VALUE, -1, 0, 1, 8, 9, 10, Integer.MAX_VALUE};
    for (int what : others) {
      x.refuses(Due.BEYOND, "change", 0, what, 0);
    }
    new Doors().refuses(Due.BEYOND, "change", 0, 2, 0);
  }

  private static void become() {
    Due.sentence("The edge of a KNIFE becomes one of a KIND, with m (km): the KIND that it was. BEYOND.");
    Doors x = Whole.begun();
    x.range(0, 2, 0, "become", 0, 0);
    x.range(0, 69, 1, "become", 0, 0);
    x.takes(1, "become", 0, 69).takes(6, "become", 0, 0).takes(0, "become", 0, 9).tells(9, "ofKnife", 0, 1);
    new Doors().refuses(Due.BEYOND, "become", 0, 0);
  }

  private static void as() {
    Due.sentence("The edge of a KNIFE as one of a KIND: m. BEYOND. KIND: it isn't of that KIND, nor of one under it.");
    Doors x = Whole.begun();
    x.range(0, 2, 0, "as", 0, 0);
    x.refusesBeyond(0, 6, 1, "as", 0, 0);
    String[] of = {"0", "01", "02", "03", "014", "025", "036"};
    for (int kind = 0; kind <= WORN; kind++) {
      for (int m = 0; m <= 9; m += 9) {
        Doors y = x.again();
        y.become(0, 10 * kind + m);
        for (int wanted = 0; wanted <= WORN; wanted++) {
          if (of[kind].indexOf('0' + wanted) >= 0) {
            y.tells(m, "as", 0, wanted);
          } else {
            y.refuses(Due.KIND, "as", 0, wanted);
          }
        }
      }
    }
    new Doors().refuses(Due.BEYOND, "as", 0, 0);
  }

  private static void gains() {
    Due.sentence("GAINS of a KNIFE on a STONE. BEYOND.");
    Doors x = Whole.begun();
    x.range(0, 2, 0, "gains", 0, 0);
    x.range(0, 3, 1, "gains", 0, 0);
    x.tells(8, "gains", 0, 0);
    x.tells(2, "gains", 0, 3);
    new Doors().refuses(Due.BEYOND, "gains", 0, 0);
    Due.sentence("STONES 0 to 3, coarse ones first.");
    x.refuses(Due.BEYOND, "gains", 0, -1);
    x.refuses(Due.BEYOND, "gains", 0, 4);
    x.refuses(Due.BEYOND, "turn", 0, -1, 1);
    x.refuses(Due.BEYOND, "turn", 0, 4, 1);
    x.refuses(Due.BEYOND, "line", 0, -1);
    x.refuses(Due.BEYOND, "line", 0, 4);
    for (int stone = 0; stone < 3; stone++) {
      Due.due("a coarser stone gains more", x.gains(0, stone) > x.gains(0, stone + 1) ? 1 : 0, 1);
    }
  }

  /** What set() sets: what it is at first, and what it becomes at least and at most. */
  private static void sets(String sentence, int what, int first, int least, int most) {
    Due.sentence(sentence);
    Doors x = new Doors();
    x.knife(0, 0, 10);
    x.refusesBeyond(least, most, 1, "set", what, least);
    int[] taken = {least, least + 1, most - 1, most};
    for (int v : taken) {
      Doors y = x.takes(first, "set", what, v);
      y.refuses(Due.BEYOND, "set", what, most + 1);
      y.refuses(Due.BEYOND, "set", what, least - 1);
      y.takes(v, "set", what, first);
    }
  }

  private static void water() {
    sets("HE has WATER (0 to 9; 4 at first)", 4, 4, 0, 9);
  }

  private static void price() {
    sets("a PRICE (0 to 20 pence; 4 at first)", 5, 4, 0, 20);
    Doors x = new Doors();
    x.knife(0, 0, 0);
    Due.law(x, 1, "1");
    x.set(5, 0);
    x.takes(1, "visit").tells(0, "count", 2);
    x.set(5, 20);
    x.takes(1, "visit").tells(20, "count", 2);
  }

  private static void purse() {
    Due.sentence("a PURSE (0 to 999999; 0 at first)");
    new Doors().tells(0, "count", 2);
    Due.cannotBeReached("PURSE is PRICE more (999999 at most)",
        "8 knives for 20 pence at less than 2,000 visits give less than 320,000; an image takes PURSE back with the day");
  }

  private static void weeks() {
    sets("comes every WEEKS (1 to 12; 3 at first)", WEEKS, 3, 1, 12);
  }

  private static void recipe() {
    for (int stone = 0; stone < 4; stone++) {
      sets("grinds by a RECIPE: TURNS on STONES 0, 1, 2, 3 (0 to 9 each; 1, 1, 1, 1 at first), in order.", stone, 1, 0, 9);
      Doors x = new Doors();
      x.knife(0, 0, 0);
      x.change(0, 3, 0);
      Due.law(x, 1, "1");
      for (int other = 0; other < 4; other++) {
        x.set(other, 0);
      }
      // no turns at all: brought, but not ground any sharper
      Doors none = x.takes(1, "visit");
      none.tells(0, "ofKnife", 0, 3);
      none.tells(200, "ofKnife", 0, 4);
      none.tells(1, "ofKnife", 0, 8);
      x.set(stone, 9);
      Doors most = x.takes(1, "visit");
      most.tells(Math.min(9 * (8 - 2 * stone), 40 + 20 * stone), "ofKnife", 0, 3);
      most.tells(200 - 9 * (3 - stone), "ofKnife", 0, 4);
    }
  }

  private static void set() {
    Due.sentence("TURNS of the RECIPE on STONE 0 to 3 (what 0 to 3), WATER (4), PRICE (5), WEEKS (6) becomes v: what it was."
        + " BEYOND.");
    Doors x = Whole.begun();
    x.range(0, 6, 0, "set", 0, 1);
    int[] most = {9, 9, 9, 9, 9, 20, 12};
    for (int what = 0; what < most.length; what++) {
      x.range(what == WEEKS ? 1 : 0, most[what], 1, "set", what, 1);
    }
    int[] are = {3, 4, 1, 5, 7, 8, 3};
    for (int what = 0; what < are.length; what++) {
      x.takes(are[what], "set", what, 1).takes(1, "set", what, are[what]);
    }
  }
}
