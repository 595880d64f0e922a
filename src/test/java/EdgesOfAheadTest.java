/** The sentences about what is ahead: term 3, and promises 16 to 20. */
final class EdgesOfAheadTest {
  private static final int BRINGS = 1;
  private static final int PRICE = 5;
  private static final int WEEKS = 6;

  public static void main(String[] args) {
    aheadByDays();
    beyondTheLastDay();
    then();
    thenPurse();
    oftenTheLeast();
    oftenTheMost();
    often();
    dearTheLeast();
    dear();
    wornNow();
    wornFirst();
    still();
    Due.end();
  }

  /** One knife that loses so much steel at each visit, on stone 2. */
  private static Doors groundBy(int turns, int steel, int weeks) {
    Doors x = new Doors();
    x.knife(0, 0, 0);
    x.change(0, 4, steel);
    x.set(0, 0);
    x.set(1, 0);
    x.set(2, turns);
    x.set(3, 0);
    x.set(WEEKS, weeks);
    Due.law(x, BRINGS, "1");
    return x;
  }

  private static void aheadByDays() {
    Due.sentence("AHEAD by n (0 to 400) DAYS: as if so many went by");
    Doors x = Whole.begun();
    int[] days = {1, 2, 8, 9, 16, 399, 400};
    for (int n : days) {
      Doors then = x.again();
      int purse = then.days(n);
      x.tells(purse, "thenPurse", n);
      for (int knife = 0; knife < 3; knife++) {
        for (int what = 0; what <= 9; what++) {
          x.tells(then.ofKnife(knife, what), "then", n, knife, what);
        }
      }
    }
    x.tells(x.again().count(2), "thenPurse", 0);
    for (int what = 0; what <= 9; what++) {
      x.tells(x.again().ofKnife(0, what), "then", 0, 0, what);
    }
    Doors y = groundBy(1, 200, 1);
    y.tells(0, "thenPurse", 0);
    y.tells(4, "thenPurse", 1);
    y.tells(4, "thenPurse", 7);
    y.tells(8, "thenPurse", 8);
    y.tells(4 * 57, "thenPurse", 393);
    y.tells(4 * 58, "thenPurse", 400);
  }

  private static void beyondTheLastDay() {
    Due.sentence("AHEAD by n (0 to 400) DAYS: as if so many went by (beyond DAY 9999, too).");
    Doors x = groundBy(0, 200, 1);
    x.change(0, 6, 1);
    for (int i = 0; i < 24; i++) {
      x.days(400);
    }
    x.days(399);
    x.change(0, 3, 99);
    int purse = x.count(2);
    Due.due("visits up to day 9996", purse, 4 * 1429);
    x.refuses(Due.STATE, "days", 1);
    // days 9999 to 10002 have none, day 10003 has the next visit
    x.tells(purse, "thenPurse", 4);
    x.tells(purse + 4, "thenPurse", 5);
    x.tells(purse + 4 * 57, "thenPurse", 400);
    x.tells(98, "then", 1, 0, 3);
    x.tells(95, "then", 4, 0, 3);
    x.tells(1429 + 57, "then", 400, 0, 8);
    x.tells(1, "often", 400);
    x.tells(20, "dear", 400);
    x.set(2, 1);
    x.change(0, 4, 2);
    // by the visits on days 10003 and 10010
    x.tells(12, "still", 0, 400);
    x.refuses(Due.NONE, "still", 0, 11);
    x.tell(98);
    x.tell(97);
    x.takes(0, "check", 0);
  }

  private static void then() {
    Due.sentence("AHEAD by n: of a KNIFE as by ofKnife(). BEYOND.");
    Doors x = Whole.begun();
    x.range(0, 400, 0, "then", 0, 0, 0);
    x.range(0, 2, 1, "then", 0, 0, 0);
    x.range(0, 9, 2, "then", 0, 0, 0);
    new Doors().refuses(Due.BEYOND, "then", 0, 0, 0);
    Whole.full().range(0, 7, 1, "then", 400, 0, 3);
  }

  private static void thenPurse() {
    Due.sentence("AHEAD by n: PURSE. BEYOND.");
    Whole.begun().range(0, 400, 0, "thenPurse", 0);
    new Doors().range(0, 400, 0, "thenPurse", 0);
  }

  private static void oftenTheLeast() {
    Due.sentence("OFTEN by n: the WEEKS by which PURSE is most AHEAD by n; of several the least.");
    // nothing is ever paid, or as much by each: 1 is the least
    new Doors().tells(1, "often", 0);
    new Doors().tells(1, "often", 400);
    Doors x = groundBy(0, 200, 12);
    x.tells(1, "often", 0);
    x.tells(1, "often", 1);
    x.tells(1, "often", 7);
    x.tells(1, "often", 8);
    x.days(1);
    // he comes on day 14 by 1 and 2 weeks, but on day 7 by 1 alone
    x.tells(1, "often", 14);
    Due.law(x, BRINGS, "0");
    x.tells(1, "often", 400);
    x.set(PRICE, 0);
    Due.law(x, BRINGS, "1");
    x.tells(1, "often", 400);
    // brought only when it is just so blunt, on day 14: by 1 and by 2 weeks
    Doors y = groundBy(0, 200, 12);
    y.change(0, 3, 99);
    y.change(0, 6, 1);
    Due.law(y, BRINGS, "b=14");
    y.tells(1, "often", 15);
    // on day 7, by 1 week, it is ground so that it is less blunt on day 14: not less is paid by that
    y.set(2, 1);
    Due.law(y, BRINGS, "b=7|b=14");
    y.tells(1, "often", 15);
    Due.law(y, BRINGS, "b=7|b>13");
    y.tells(1, "often", 15);
  }

  private static void oftenTheMost() {
    Due.sentence("OFTEN by n: the WEEKS by which PURSE is most AHEAD by n; of several the least.");
    // who is brought ahead of day 84 gets WORN, and the neighbour is not blunt enough ahead of it
    Doors x = new Doors();
    x.knife(0, 0, 10);
    x.knife(0, 1, 10);
    x.change(0, 3, 99);
    x.change(1, 3, 99);
    x.change(0, 4, 1);
    Due.law(x, BRINGS, "h=0&b>0|n&b>80");
    x.tells(12, "often", 85);
    x.tells(1, "often", 84);
    // by 11 weeks he comes on day 77, when the neighbour's is blunt enough, too
    Due.law(x, BRINGS, "h=0&b>0|n&b>76");
    x.tells(11, "often", 85);
    x.tells(11, "often", 78);
    x.tells(1, "often", 77);
    x.tells(3, "set", WEEKS, 3);
  }

  private static void often() {
    Due.sentence("OFTEN by n. BEYOND.");
    Whole.begun().range(0, 400, 0, "often", 0);
    new Doors().range(0, 400, 0, "often", 0);
  }

  private static void dearTheLeast() {
    Due.sentence("DEAR by n: the PRICE likewise.");
    new Doors().tells(0, "dear", 0);
    new Doors().tells(0, "dear", 400);
    Doors x = groundBy(0, 200, 1);
    x.tells(0, "dear", 0);
    x.tells(20, "dear", 1);
    Due.law(x, BRINGS, "0");
    x.tells(0, "dear", 400);
    Due.law(x, BRINGS, "p<20");
    x.tells(19, "dear", 400);
    Due.law(x, BRINGS, "p=0");
    x.tells(0, "dear", 400);
    Due.law(x, BRINGS, "p=1");
    x.tells(1, "dear", 400);
    // two for 6, or one for 12: the least
    x.knife(0, 1, 0);
    Due.law(x, BRINGS, "p=6|p=12&h=0");
    x.tells(6, "dear", 1);
    Due.law(x, BRINGS, "p=6|p=13&h=0");
    x.tells(13, "dear", 1);
    Due.law(x, BRINGS, "p=6|p=11&h=0");
    x.tells(6, "dear", 1);
    x.tells(4, "set", PRICE, 4);
  }

  private static void dear() {
    Due.sentence("DEAR by n. BEYOND.");
    Whole.begun().range(0, 400, 0, "dear", 0);
    new Doors().range(0, 400, 0, "dear", 0);
  }

  private static void wornNow() {
    Due.sentence("STILL of a KNIFE by n: behind how many DAYS it is WORN first (0: now).");
    Doors x = groundBy(1, 1, 1);
    x.become(0, 60);
    x.tells(0, "still", 0, 0);
    x.tells(0, "still", 0, 400);
    // WORN with STEEL, and hot enough to burn: it isn't brought, and stays so
    x.change(0, 4, 999);
    x.change(0, 5, 99);
    x.tells(0, "still", 0, 400);
  }

  private static void wornFirst() {
    Due.sentence("STILL of a KNIFE by n: behind how many DAYS it is WORN first (0: now).");
    // by the visit of day 0: behind 1 day
    Doors x = groundBy(1, 1, 1);
    x.refuses(Due.NONE, "still", 0, 0);
    x.tells(1, "still", 0, 1);
    x.tells(1, "still", 0, 400);
    x.change(0, 4, 2);
    x.refuses(Due.NONE, "still", 0, 7);
    x.tells(8, "still", 0, 8);
    x.tells(8, "still", 0, 9);
    // by the visit on day 392, the 57th: behind 393 days
    x.change(0, 4, 57);
    x.refuses(Due.NONE, "still", 0, 392);
    x.tells(393, "still", 0, 393);
    x.tells(393, "still", 0, 400);
    // by the visit on day 399: behind 400
    x.change(0, 4, 58);
    x.refuses(Due.NONE, "still", 0, 399);
    x.tells(400, "still", 0, 400);
    x.change(0, 4, 59);
    x.refuses(Due.NONE, "still", 0, 400);
    // brought only when it is just so blunt as by its own cuts, which no draws double
    Doors cut = groundBy(1, 1, 1);
    cut.change(0, 6, 1);
    Due.law(cut, BRINGS, "b=53");
    cut.tells(15, "still", 0, 400);
    // no STEEL, but no visit that would find it WORN
    Due.law(x, BRINGS, "0");
    x.change(0, 4, 0);
    x.refuses(Due.NONE, "still", 0, 400);
    x.tells(0, "ofKnife", 0, 0);
  }

  private static void still() {
    Due.sentence("STILL by n. BEYOND. NONE: not within n.");
    Doors x = Whole.begun();
    x.become(0, 69);
    x.become(2, 60);
    x.refusesBeyond(0, 2, 0, "still", 0, 0);
    x.range(0, 400, 1, "still", 0, 0);
    x.tells(0, "still", 2, 400);
    x.refuses(Due.NONE, "still", 1, 0);
    new Doors().refuses(Due.BEYOND, "still", 0, 0);
  }
}
