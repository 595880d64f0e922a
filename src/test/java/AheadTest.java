/** Promises 16 to 20: then, thenPurse, often, dear, still. */
final class AheadTest {
  public static void main(String[] args) {
    then();
    thenPurse();
    often();
    dear();
    still();
    Due.end();
  }

  private static Doors street() {
    Doors x = new Doors();
    x.knife(3, 0, 20);
    x.knife(14, 1, 31);
    x.knife(25, 2, 12);
    x.knife(36, 3, 23);
    x.knife(47, 4, 10);
    return x;
  }

  private static void then() {
    Doors x = street();
    Doors y = street();
    x.change(1, 5, 44);
    y.change(1, 5, 44);
    Due.law(x, 0, "(s<30)-(t>180)");
    Due.law(y, 0, "(s<30)-(t>180)");
    Due.law(x, 1, "b-50+n*9-p");
    Due.law(y, 1, "b-50+n*9-p");
    Due.due("P16 by 0", x.then(0, 1, 5), 44);
    int day = 0;
    int[] days = {1, 20, 21, 22, 43, 64, 127, 400};
    for (int n : days) {
      y.days(n - day);
      day = n;
      for (int knife = 0; knife < 5; knife++) {
        for (int what = 0; what <= 9; what++) {
          String call = "P16 then(" + n + ", " + knife + ", " + what + ")";
          Due.due(call, x.then(n, knife, what), y.ofKnife(knife, what));
        }
      }
    }
    Due.due("P16 no day went by", x.count(0), 0);
    Due.due("P16 no draws", x.count(8), 1);
    Due.due("P16 no purse", x.count(2), 0);
    Due.due("P16 sharp stays", x.ofKnife(0, 3), 60);
    Due.due("P16 n -1", x.then(-1, 0, 0), Due.BEYOND);
    Due.due("P16 n 401", x.then(401, 0, 0), Due.BEYOND);
    Due.due("P16 knife -1", x.then(0, -1, 0), Due.BEYOND);
    Due.due("P16 knife 5", x.then(0, 5, 0), Due.BEYOND);
    Due.due("P16 what -1", x.then(0, 0, -1), Due.BEYOND);
    Due.due("P16 what 10", x.then(0, 0, 10), Due.BEYOND);
  }

  private static void thenPurse() {
    Doors x = street();
    Due.due("P17 by 0", x.thenPurse(0), 0);
    Due.due("P17 by 1", x.thenPurse(1), 0);
    Due.due("P17 n -1", x.thenPurse(-1), Due.BEYOND);
    Due.due("P17 n 401", x.thenPurse(401), Due.BEYOND);
    Due.law(x, 1, "b>30");
    Due.due("P17 by 1", x.thenPurse(1), 20);
    Due.due("P17 by 21", x.thenPurse(21), 20);
    Due.due("P17 by 22", x.thenPurse(22), 40);
    Due.due("P17 purse", x.count(2), 0);
    x.visit();
    Due.due("P17 with what is there", x.thenPurse(0), 20);
  }

  private static void often() {
    Doors x = street();
    Due.due("P18 n -1", x.often(-1), Due.BEYOND);
    Due.due("P18 n 401", x.often(401), Due.BEYOND);
    Due.due("P18 by 0 the least", x.often(0), 1);
    Due.law(x, 1, "b>90");
    bestIs(x, 100, false);
    bestIs(x, 400, false);
    Due.law(x, 1, "b>98");
    bestIs(x, 400, false);
    x.set(6, 9);
    bestIs(x, 60, false);
    Due.due("P18 weeks stay", x.set(6, 3), 9);
    Due.due("P18 no day went by", x.count(0), 0);
    // he who comes on day 7 leaves it as the text never asks again; on day 14 it is so blunt that it is brought twice
    Doors y = new Doors();
    y.knife(0, 0, 10);
    y.change(0, 3, 42);
    Due.law(y, 1, "b=64|b=71|b=65");
    Due.due("P18 seldom is better", y.often(29), 2);
    Due.due("P18 of several the least", y.often(28), 1);
    Due.due("P18 by day 14", y.often(14), 1);
  }

  private static void dear() {
    Doors x = street();
    Due.due("P19 n -1", x.dear(-1), Due.BEYOND);
    Due.due("P19 n 401", x.dear(401), Due.BEYOND);
    Due.due("P19 by 0 the least", x.dear(0), 0);
    bestIs(x, 50, true);
    bestIs(x, 200, true);
    Due.law(x, 1, "7-p");
    Due.due("P19 just brought", x.dear(1), 6);
    Due.law(x, 1, "21-p");
    Due.due("P19 the dearest", x.dear(1), 20);
    Due.law(x, 1, "p=6&h<2|p=4&h<3|p=12&h<1");
    Due.due("P19 of several the least", x.dear(1), 4);
    x.set(5, 9);
    bestIs(x, 60, true);
    Due.due("P19 the price stays", x.set(5, 3), 9);
  }

  /** Tries each number of weeks, or price, by thenPurse(). */
  private static void bestIs(Doors x, int n, boolean price) {
    int what = price ? 5 : 6;
    int was = x.set(what, 1);
    int best = -1;
    int most = -1;
    for (int v = price ? 0 : 1; v <= (price ? 20 : 12); v++) {
      x.set(what, v);
      int purse = x.thenPurse(n);
      if (purse > most) {
        most = purse;
        best = v;
      }
    }
    x.set(what, was);
    Due.due(price ? "P19 dear(" + n + ")" : "P18 often(" + n + ")", price ? x.dear(n) : x.often(n), best);
  }

  private static void still() {
    Doors x = new Doors();
    x.knife(60, 0, 0);
    x.knife(0, 1, 0);
    x.set(0, 0);
    x.set(1, 0);
    x.set(3, 0);
    x.set(6, 1);
    Due.law(x, 1, "1");
    x.change(1, 4, 3);
    Due.due("P20 now", x.still(0, 0), 0);
    Due.due("P20 now", x.still(0, 400), 0);
    Due.due("P20 by 14", x.still(1, 14), Due.NONE);
    Due.due("P20 by 15", x.still(1, 15), 15);
    Due.due("P20 by 400", x.still(1, 400), 15);
    Due.due("P20 by 0", x.still(1, 0), Due.NONE);
    Due.due("P20 it is not", x.ofKnife(1, 0), 0);
    Due.due("P20 no day went by", x.count(0), 0);
    x.days(8);
    Due.due("P20 from now on", x.still(1, 400), 7);
    Due.due("P20 n -1", x.still(1, -1), Due.BEYOND);
    Due.due("P20 n 401", x.still(1, 401), Due.BEYOND);
    Due.due("P20 knife -1", x.still(-1, 0), Due.BEYOND);
    Due.due("P20 knife 2", x.still(2, 0), Due.BEYOND);
    Due.due("P20 told", x.told(2), 2);
    x.change(1, 4, 999);
    Due.due("P20 not within 400", x.still(1, 400), Due.NONE);
    x.change(1, 4, 57);
    Due.due("P20 not yet", x.still(1, 400), 399);
    Due.due("P20 not yet", x.still(1, 398), Due.NONE);
    Due.due("P20 just", x.still(1, 399), 399);
    x.change(1, 4, 58);
    Due.due("P20 behind 400", x.still(1, 400), Due.NONE);
    x.days(6);
    Due.due("P20 behind 400", x.still(1, 400), 400);
    // worn by the visit that finds it just so blunt, which no loose day would leave it
    Doors y = new Doors();
    y.knife(0, 0, 10);
    y.change(0, 4, 1);
    y.set(6, 1);
    Due.law(y, 1, "b=53");
    Due.due("P20 by its cuts", y.still(0, 400), 15);
    Due.due("P20 no draws", y.count(8), 1);
  }
}
