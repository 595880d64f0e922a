/** The sentences about visits, days and loose days: term 3, and promises 13 to 15. */
final class EdgesOfDaysTest {
  private static final int BRINGS = 1;
  private static final int WEEKS = 6;
  private static final int BURNT = 4;
  private static final int WORN = 6;

  public static void main(String[] args) {
    nextDoor();
    already();
    howManyNextDoor();
    aboveNothing();
    namesOfAVisit();
    notWorn();
    groundOnWhenBurnt();
    groundOnWhenWorn();
    groundOnceMore();
    multiples();
    cutsLeaveNothing();
    asAheadOfCuts();
    heatIsNone();
    days();
    lastDay();
    draws();
    twiceAsManyCuts();
    loose();
    visit();
    Due.end();
  }

  /** Knives in these houses; none is ground any sharper when it is brought. */
  private static Doors street(String brings, int... houses) {
    Doors x = new Doors();
    for (int house : houses) {
      x.knife(0, house, 0);
    }
    for (int stone = 0; stone < 4; stone++) {
      x.set(stone, 0);
    }
    Due.law(x, BRINGS, brings);
    return x;
  }

  private static void nextDoor() {
    Due.sentence("n is how many KNIVES of HOUSES next door (1 more, 1 less) were BROUGHT in this VISIT already");
    for (int house = 0; house <= 5; house++) {
      for (int other = 0; other <= 5; other++) {
        // the first is all blunt, and brought for that; the second only for its neighbours
        Doors x = street("b=99|n", house, other);
        x.change(0, 3, 0);
        x.takes(Math.abs(house - other) == 1 ? 2 : 1, "visit");
      }
    }
  }

  private static void already() {
    Due.sentence("n is how many KNIVES of HOUSES next door (1 more, 1 less) were BROUGHT in this VISIT already");
    Doors behind = street("b=99|n", 2, 3);
    behind.change(1, 3, 0);
    Due.due("the neighbour comes later", behind.visit(), 1);
    behind.change(1, 3, 60);
    Due.due("the neighbour came in another visit", behind.visit(), 0);
    Doors worn = street("b=99|n", 2, 3);
    worn.change(0, 3, 0);
    worn.become(0, 60);
    Due.due("the neighbour's was WORN, and not brought", worn.visit(), 0);
    Doors chain = street("b=99|n", 0, 1, 2, 3, 4, 5, 4, 3);
    chain.change(0, 3, 0);
    Due.due("one brings the next", chain.visit(), 8);
  }

  private static void howManyNextDoor() {
    Due.sentence("n is how many KNIVES of HOUSES next door (1 more, 1 less) were BROUGHT in this VISIT already");
    for (int n = 0; n <= 8; n++) {
      Doors x = street("h-2|n=" + n, 1, 3, 1, 3, 3, 3, 1, 2);
      x.takes(n == 7 ? 8 : 7, "visit");
      Doors same = street("n=" + n, 2, 2, 2, 2, 2, 2, 2, 2);
      same.takes(n == 0 ? 8 : 0, "visit");
    }
  }

  private static void aboveNothing() {
    Due.sentence("it is BROUGHT, if what BRINGS gives is above 0");
    street("0", 0).takes(0, "visit");
    street("1", 0).takes(1, "visit");
    street("2", 0).takes(1, "visit");
    street("0-1", 0).takes(0, "visit");
    street("8192*8192*32", 0).takes(0, "visit");
    street("8192*8192*32-1", 0).takes(1, "visit");
    Doors x = new Doors();
    x.knife(0, 0, 0);
    for (int sharp = 47; sharp <= 50; sharp++) {
      x.change(0, 3, sharp);
      x.takes(sharp <= 48 ? 1 : 0, "visit");
    }
    Doors refused = street("0", 0);
    refused.visit();
    refused.tells(0, "count", 2);
    refused.tells(0, "ofKnife", 0, 8);
  }

  /** What each NAME of BRINGS is for a knife, at the ends of what it can be. */
  private static void namesOfAVisit() {
    Due.sentence("1 BRINGS, NAMES b 99 less SHARP, n (below), p PRICE, h HOUSE;");
    int[] ends = {0, 1, 98, 99};
    for (int sharp : ends) {
      Doors x = street("b=" + (99 - sharp), 3);
      x.change(0, 3, sharp);
      x.takes(1, "visit");
      x.change(0, 3, 50);
      x.takes(0, "visit");
    }
    for (int price = 0; price <= 20; price += 20) {
      Doors x = street("p=" + price, 3);
      x.takes(0, "visit");
      x.set(5, price);
      x.takes(1, "visit");
    }
    for (int house = 0; house <= 5; house++) {
      Doors x = street("h=" + house, 0, 1, 2, 3, 4, 5);
      x.takes(1, "visit").tells(1, "ofKnife", house, 8);
    }
  }

  private static void notWorn() {
    Due.sentence("and the edge is not WORN");
    for (int kind = 0; kind <= WORN; kind++) {
      Doors x = street("1", 0);
      x.become(0, 10 * kind + 9);
      Doors y = x.takes(kind == WORN ? 0 : 1, "visit");
      y.tells(kind == WORN ? 0 : 4, "count", 2);
      y.tells(kind == WORN ? 0 : 1, "ofKnife", 0, 8);
    }
    // no STEEL, but not WORN: it is brought, and is so by its first turn
    Doors z = street("1", 0);
    z.change(0, 4, 0);
    z.set(3, 1);
    z.takes(1, "visit").tells(WORN, "ofKnife", 0, 0);
  }

  private static void groundOnWhenBurnt() {
    Due.sentence("it is ground by the RECIPE (also on when it gets BURNT or WORN)");
    Doors x = street("1", 0);
    x.set(0, 9);
    x.set(1, 1);
    x.set(4, 0);
    x.change(0, 3, 0);
    x.become(0, 15);
    // the seventh turn burns; the eighth and ninth gain as BURNT, as does the one on stone 1
    x.visit();
    x.tells(BURNT, "ofKnife", 0, 0);
    x.tells(43, "ofKnife", 0, 3);
    x.tells(200 - 27 - 2, "ofKnife", 0, 4);
    x.tells(18 + 7, "ofKnife", 0, 5);
    x.tells(1, "ofKnife", 0, 8);
  }

  private static void groundOnWhenWorn() {
    Due.sentence("it is ground by the RECIPE (also on when it gets BURNT or WORN)");
    Doors x = street("1", 0);
    x.set(0, 2);
    x.set(1, 3);
    x.set(3, 2);
    x.change(0, 3, 0);
    x.change(0, 4, 6);
    x.visit();
    x.tells(WORN, "ofKnife", 0, 0);
    x.tells(8 + 8 + 1 + 1 + 1 + 1 + 1, "ofKnife", 0, 3);
    x.tells(0, "ofKnife", 0, 4);
    x.tells(1, "ofKnife", 0, 8);
    x.tells(4, "count", 2);
    x.takes(0, "visit");
  }

  private static void groundOnceMore() {
    Due.sentence("GROUND is 1 more, PURSE is PRICE more (999999 at most).");
    int[] prices = {0, 1, 19, 20};
    for (int price : prices) {
      Doors x = street("1", 0, 3, 5);
      x.become(1, 60);
      x.set(5, price);
      for (int visits = 1; visits <= 3; visits++) {
        Due.due("visit()", x.visit(), 2);
        x.tells(2 * price * visits, "count", 2);
        x.tells(2 * visits, "count", 4);
        x.tells(visits, "ofKnife", 0, 8);
        x.tells(0, "ofKnife", 1, 8);
        x.tells(visits, "ofKnife", 2, 8);
      }
    }
  }

  private static void multiples() {
    Due.sentence("(1) if DAY (0 to 9999; 0 at first) is a multiple of 7 times WEEKS, a VISIT.");
    for (int weeks = 1; weeks <= 12; weeks++) {
      Doors x = street("1", 0);
      x.set(WEEKS, weeks);
      x.takes(4, "days", 1).tells(1, "ofKnife", 0, 8);
      x.takes(4, "days", 7 * weeks).tells(1, "ofKnife", 0, 8);
      x.takes(8, "days", 7 * weeks + 1).tells(2, "ofKnife", 0, 8);
      x.days(7 * weeks - 1);
      x.takes(4, "days", 1);
      x.days(1);
      x.takes(8, "days", 1);
      x.days(1);
      x.takes(8, "days", 7 * weeks - 1);
      x.takes(12, "days", 7 * weeks);
    }
    // a visit on DAY 0 is one that goes by, not one now
    street("1", 0).tells(0, "count", 2);
  }

  /** A knife so SHARP, with so many cuts a day for a USE, behind a day without a visit. */
  private static Doors afterADay(int km, int sharp, int cu) {
    Doors x = new Doors();
    x.knife(km, 0, cu);
    x.change(0, 3, sharp);
    x.change(0, 5, 99);
    Due.law(x, BRINGS, "0");
    x.days(1);
    return x;
  }

  private static void cutsLeaveNothing() {
    Due.sentence("(2) each KNIFE: SHARP is CUTS times DULLS less (as it is ahead of them; 0 at least); HEAT is 0.");
    // 5 cuts for bone: 15 less
    int[] sharp = {0, 1, 14, 15, 16, 17, 99};
    for (int s : sharp) {
      afterADay(0, s, 52).tells(Math.max(0, s - 15), "ofKnife", 0, 3);
      afterADay(0, s, 2).tells(s, "ofKnife", 0, 3);
      afterADay(0, s, 93).tells(Math.max(0, s - 36), "ofKnife", 0, 3);
      afterADay(49, s, 93).tells(0, "ofKnife", 0, 3);
      // a COARSE one for bread is not dulled at all
      afterADay(20, s, 90).tells(s, "ofKnife", 0, 3);
    }
    Doors all = new Doors();
    for (int i = 0; i < 8; i++) {
      all.knife(0, 0, 10 * i);
    }
    Due.law(all, BRINGS, "0");
    all.days(1);
    for (int i = 0; i < 8; i++) {
      all.tells(60 - i, "ofKnife", i, 3);
    }
  }

  private static void asAheadOfCuts() {
    Due.sentence("SHARP is CUTS times DULLS less (as it is ahead of them; 0 at least)");
    afterADay(30, 21, 90).tells(12, "ofKnife", 0, 3);
    afterADay(30, 20, 90).tells(11, "ofKnife", 0, 3);
    afterADay(30, 19, 90).tells(19, "ofKnife", 0, 3);
    afterADay(60, 20, 90).tells(2, "ofKnife", 0, 3);
    afterADay(60, 19, 90).tells(19, "ofKnife", 0, 3);
    // but a visit on that day is ahead of the cuts, and counts
    Doors x = new Doors();
    x.knife(30, 0, 90);
    x.change(0, 3, 13);
    x.set(0, 0);
    x.set(2, 0);
    x.set(3, 0);
    Due.law(x, BRINGS, "1");
    x.takes(4, "days", 1).tells(18, "ofKnife", 0, 3);
    x.change(0, 3, 15);
    x.takes(4, "days", 1).tells(20 - 9, "ofKnife", 0, 3);
  }

  private static void heatIsNone() {
    Due.sentence("HEAT is 0. (3) DAY is 1 more.");
    Doors x = afterADay(0, 50, 0);
    x.tells(0, "ofKnife", 0, 5);
    x.tells(1, "count", 0);
    // none gets BURNT or WORN by a day
    x.tells(0, "ofKnife", 0, 0);
    Doors hot = new Doors();
    hot.knife(0, 0, 0);
    hot.set(0, 9);
    hot.set(4, 0);
    Due.law(hot, BRINGS, "1");
    hot.takes(1, "visit").tells(18 + 7 + 5 + 3, "ofKnife", 0, 5);
    hot.days(1);
    hot.tells(0, "ofKnife", 0, 5);
  }

  private static void days() {
    Due.sentence("n (1 to 400) DAYS go by: PURSE. BEYOND. STATE: DAY would be above 9999.");
    Doors x = Whole.begun();
    x.range(1, 400, 0, "days", 1);
    x.takes(x.again().thenPurse(1), "days", 1).tells(6, "count", 0);
    x.takes(x.again().thenPurse(400), "days", 400).tells(405, "count", 0);
  }

  private static Doors onDay(int day) {
    Doors x = street("1", 0, 5);
    x.set(WEEKS, 1);
    while (x.count(0) < day) {
      x.days(Math.min(400, day - x.count(0)));
    }
    return x;
  }

  private static void lastDay() {
    Due.sentence("STATE: DAY would be above 9999.");
    String[] acts = {"days", "loose"};
    Doors end = onDay(9999);
    Doors nearly = onDay(9998);
    Doors far = onDay(9599);
    Doors further = onDay(9600);
    for (String act : acts) {
      end.refuses(Due.STATE, act, 1);
      end.refuses(Due.STATE, act, 400);
      end.refuses(Due.BEYOND, act, 0);
      end.refuses(Due.BEYOND, act, 401);
      nearly.refuses(Due.STATE, act, 2);
      nearly.takes(8 * 1429, act, 1).tells(9999, "count", 0);
      far.takes(8 * 1429, act, 400).tells(9999, "count", 0);
      further.refuses(Due.STATE, act, 400);
      further.takes(8 * 1429, act, 399).tells(9999, "count", 0);
    }
    // an image leads back to where days can go by
    Doors x = onDay(9600);
    x.image();
    x.days(399);
    x.refuses(Due.STATE, "days", 1);
    Due.due("restore()", x.restore(), 9600);
    x.takes(x.count(2), "days", 1).tells(9601, "count", 0);
  }

  private static void draws() {
    Due.sentence("z is told (1 at first); each makes it z * 1103515245 + 12345 (an int), and gives z >>> 8.");
    Doors first = street("0", 0);
    first.tells(1, "count", 8);
    first.takes(0, "loose", 1).tells(1103515245 + 12345, "count", 8);
    int[] seeds = {0, 1, -1, Integer.MIN_VALUE, Integer.MAX_VALUE, 123456789};
    for (int seed : seeds) {
      for (int knives = 0; knives <= 8; knives += 4) {
        Doors x = street("0", new int[knives]);
        x.seed(seed);
        int z = seed;
        for (int i = 0; i < 3 * knives; i++) {
          z = (int) (z * 1103515245L + 12345L);
        }
        // also one that isn't cut with draws, and one that is WORN
        if (knives > 0) x.become(0, 60);
        x.takes(0, "loose", 3).tells(z, "count", 8);
        x.takes(0, "days", 3).tells(seed, "count", 8);
      }
    }
  }

  private static void twiceAsManyCuts() {
    Due.sentence("A LOOSE DAY: as a DAY, but in (2) each KNIFE draws first: if its rest by 4 is 0, there are twice as many CUTS.");
    int[] seen = new int[4];
    for (int seed = -6; seed <= 6; seed++) {
      Doors x = street("0", 0, 1, 2);
      x.change(0, 6, 9);
      x.change(1, 6, 0);
      x.change(2, 6, 5);
      x.change(2, 7, 3);
      int[] perDay = {9, 0, 20};
      x.seed(seed);
      x.loose(1);
      int z = seed;
      for (int knife = 0; knife < 3; knife++) {
        z = z * 1103515245 + 12345;
        int rest = (z >>> 8) % 4;
        seen[rest]++;
        int less = rest == 0 ? 2 * perDay[knife] : perDay[knife];
        x.tells(60 - less, "ofKnife", knife, 3);
        x.tells(new int[] {9, 0, 5}[knife], "ofKnife", knife, 6);
      }
    }
    for (int rest = 0; rest < 4; rest++) {
      Due.due("rest " + rest + " was drawn", seen[rest] > 0 ? 1 : 0, 1);
    }
    // twice as many leave 0 at least, too
    Doors blunt = street("0", 0);
    blunt.change(0, 6, 9);
    blunt.seed(8);
    int[] sharp = {17, 18, 19, 8, 9, 10};
    for (int s : sharp) {
      blunt.change(0, 3, s);
      boolean isTwice = ((8 * 1103515245 + 12345) >>> 8) % 4 == 0;
      blunt.takes(0, "loose", 1).tells(Math.max(0, s - (isTwice ? 18 : 9)), "ofKnife", 0, 3);
    }
  }

  private static void loose() {
    Due.sentence("n (1 to 400) LOOSE DAYS: likewise. BEYOND. STATE.");
    Doors x = Whole.begun();
    x.range(1, 400, 0, "loose", 1);
    Doors y = street("1", 0);
    y.takes(4, "loose", 21).tells(1, "ofKnife", 0, 8);
    y.takes(8, "loose", 22).tells(2, "ofKnife", 0, 8);
    y.takes(80, "loose", 400).tells(400, "count", 0);
  }

  private static void visit() {
    Due.sentence("A VISIT now: how many KNIVES were BROUGHT.");
    new Doors().takes(0, "visit").tells(0, "count", 2);
    street("1", 0, 1, 2, 3, 4, 5, 0, 1).takes(8, "visit").tells(32, "count", 2);
    street("0", 0, 1, 2, 3, 4, 5, 0, 1).takes(0, "visit").tells(0, "count", 2);
    // on any day, as often as it is asked for; no day goes by
    Doors x = street("1", 0);
    x.days(2);
    x.visit();
    x.visit();
    x.tells(2, "count", 0);
    x.tells(12, "count", 2);
  }
}
