/** Promises 21 to 23: least, line, hand. */
final class GrindingTest {
  public static void main(String[] args) {
    least();
    leastByAll();
    line();
    hand();
    handByAll();
    Due.end();
  }

  private static void leastIs(Doors x, int sharp, int... due) {
    for (int what = -1; what <= 3; what++) {
      Due.due("P21 least(0, " + sharp + ", " + what + ")", x.least(0, sharp, what), due[what + 1]);
    }
  }

  private static void least() {
    Doors x = new Doors();
    x.knife(0, 0, 0);
    leastIs(x, 0, 0, 0, 0, 0, 0);
    leastIs(x, 60, 0, 0, 0, 0, 0);
    leastIs(x, 61, 0, 0, 0, 0, 1);
    leastIs(x, 68, 0, 0, 0, 0, 4);
    leastIs(x, 69, 1, 0, 0, 1, 3);
    leastIs(x, 84, 4, 0, 0, 4, 4);
    leastIs(x, 85, Due.NONE, Due.NONE, Due.NONE, Due.NONE, Due.NONE);
    x.change(0, 3, 0);
    // as little steel and as few turns as 2, 0, 4, 4
    leastIs(x, 40, 10, 0, 3, 4, 3);
    // as little steel and as few turns as 1, 0, 4, 4
    leastIs(x, 32, 7, 0, 2, 3, 4);
    Due.due("P21 knife -1", x.least(-1, 0, 0), Due.BEYOND);
    Due.due("P21 knife 1", x.least(1, 0, 0), Due.BEYOND);
    Due.due("P21 x -1", x.least(0, -1, 0), Due.BEYOND);
    Due.due("P21 x 100", x.least(0, 100, 0), Due.BEYOND);
    Due.due("P21 what -2", x.least(0, 0, -2), Due.BEYOND);
    Due.due("P21 what 4", x.least(0, 0, 4), Due.BEYOND);
    Due.due("P21 beyond ahead of none", x.least(0, 99, 4), Due.BEYOND);
    Due.due("P21 nothing is ground", x.ofKnife(0, 4), 200);
  }

  /** Against all recipes, each by turn() on an object of its own, for some edges. */
  private static void leastByAll() {
    int[] edges = {0, 17, 25, 33, 46, 59, 62};
    for (int e = 0; e < edges.length; e++) {
      for (int trial = 0; trial < 6; trial++) {
        int sharp = new int[] {0, 20, 37, 55, 12, 70}[trial];
        int steel = new int[] {200, 21, 9, 3, 0, 1}[trial];
        int heat = new int[] {0, 30, 58, 75, 99, 40}[trial];
        int water = new int[] {4, 0, 9, 2, 3, 4}[trial];
        leastAgrees(edges[e], sharp, steel, heat, water);
      }
    }
  }

  private static Doors with(int km, int sharp, int steel, int heat, int water) {
    Doors x = new Doors();
    x.knife(km, 0, 0);
    x.change(0, 3, sharp);
    x.change(0, 4, steel);
    x.change(0, 5, heat);
    x.set(4, water);
    return x;
  }

  private static void leastAgrees(int km, int sharp, int steel, int heat, int water) {
    int[] reached = new int[625];
    int[] taken = new int[625];
    Doors all = with(km, sharp, steel, heat, water);
    for (int row = 0; row < 625; row++) {
      if (row % 25 == 0) all = with(km, sharp, steel, heat, water);
      all.become(0, km);
      all.change(0, 3, sharp);
      all.change(0, 4, steel);
      all.change(0, 5, heat);
      grind(all, row);
      reached[row] = all.ofKnife(0, 0) == km / 10 ? all.ofKnife(0, 3) : -1;
      taken[row] = steel - all.ofKnife(0, 4);
    }
    Doors x = with(km, sharp, steel, heat, water);
    for (int wanted = 0; wanted < 100; wanted += 1) {
      int best = -1;
      for (int row = 0; row < 625; row++) {
        if (reached[row] < wanted) continue;
        boolean isFirst = best < 0 || taken[row] < taken[best];
        if (isFirst || taken[row] == taken[best] && turns(row) < turns(best)) best = row;
      }
      String call = "P21 of " + km + ", " + sharp + ", " + steel + ", " + heat + ": least(0, " + wanted + ")";
      Due.due(call, x.least(0, wanted, -1), best < 0 ? Due.NONE : taken[best]);
      for (int stone = wanted % 4; stone < 4 && wanted % 7 == 0 || stone == wanted % 4; stone++) {
        Due.due(call + " on " + stone, x.least(0, wanted, stone), best < 0 ? Due.NONE : on(best, stone));
      }
    }
  }

  private static int on(int row, int stone) {
    return row / new int[] {125, 25, 5, 1}[stone] % 5;
  }

  private static int turns(int row) {
    return on(row, 0) + on(row, 1) + on(row, 2) + on(row, 3);
  }

  private static void grind(Doors x, int row) {
    for (int stone = 0; stone < 4; stone++) {
      if (on(row, stone) > 0) x.turn(0, stone, on(row, stone));
    }
  }

  private static void line() {
    Doors x = new Doors();
    x.knife(0, 0, 0);
    int[] cool = {11, 19, 59, 60};
    for (int stone = 0; stone < 4; stone++) {
      Due.due("P22 line on " + stone, x.line(0, stone), cool[stone]);
    }
    x.change(0, 5, 30);
    int[] warm = {5, 9, 29, 60};
    for (int stone = 0; stone < 4; stone++) {
      Due.due("P22 warm line on " + stone, x.line(0, stone), warm[stone]);
    }
    x.change(0, 5, 60);
    Due.due("P22 hot", x.line(0, 0), 0);
    Due.due("P22 hot, but cooled", x.line(0, 3), 60);
    x.set(4, 9);
    x.change(0, 5, 0);
    x.change(0, 4, 9);
    int[] thin = {2, 4, 8, 60};
    for (int stone = 0; stone < 4; stone++) {
      Due.due("P22 thin line on " + stone, x.line(0, stone), thin[stone]);
    }
    x.change(0, 4, 60);
    Due.due("P22 59 turns", x.line(0, 2), 59);
    x.change(0, 4, 61);
    Due.due("P22 60 turns", x.line(0, 2), 60);
    x.change(0, 4, 62);
    Due.due("P22 no more than 60", x.line(0, 2), 60);
    x.change(0, 4, 0);
    Due.due("P22 no steel", x.line(0, 3), 0);
    Due.due("P22 stone -1", x.line(0, -1), Due.BEYOND);
    Due.due("P22 stone 4", x.line(0, 4), Due.BEYOND);
    Due.due("P22 knife -1", x.line(-1, 0), Due.BEYOND);
    Due.due("P22 knife 1", x.line(1, 0), Due.BEYOND);
    Due.due("P22 nothing is ground", x.ofKnife(0, 3), 60);
    Due.due("P22 nor hot", x.ofKnife(0, 5), 0);
  }

  private static void hand() {
    Doors x = new Doors();
    x.knife(0, 0, 0);
    Due.due("P23 by nothing", x.hand(0, 60, 200, -1), 1);
    for (int stone = 0; stone < 4; stone++) {
      Due.due("P23 by nothing", x.hand(0, 60, 200, stone), 0);
    }
    x.turn(0, 3, 2);
    x.change(0, 5, 90);
    Due.due("P23 by two", x.hand(0, 60, 200, 3), 2);
    Due.due("P23 by two", x.hand(0, 60, 200, -1), 1);
    Due.due("P23 by none", x.hand(0, 10, 10, -1), 0);
    Due.due("P23 by none", x.hand(0, 10, 10, 0), Due.NONE);
    Due.due("P23 by none", x.hand(0, 10, 10, 3), Due.NONE);
    Due.due("P23 x -1", x.hand(0, -1, 200, 0), Due.BEYOND);
    Due.due("P23 x 100", x.hand(0, 100, 200, 0), Due.BEYOND);
    Due.due("P23 steel -1", x.hand(0, 60, -1, 0), Due.BEYOND);
    Due.due("P23 steel 1000", x.hand(0, 60, 1000, 0), Due.BEYOND);
    Due.due("P23 what -2", x.hand(0, 60, 200, -2), Due.BEYOND);
    Due.due("P23 what 4", x.hand(0, 60, 200, 4), Due.BEYOND);
    Due.due("P23 knife -1", x.hand(-1, 60, 200, 0), Due.BEYOND);
    Due.due("P23 knife 1", x.hand(1, 60, 200, 0), Due.BEYOND);
    x.change(0, 3, 99);
    x.change(0, 4, 999);
    Due.due("P23 the most", x.hand(0, 99, 999, -1), 5);
    Due.due("P23 the first", x.hand(0, 99, 999, 3), 0);
    Due.due("P23 nothing is ground", x.ofKnife(0, 5), 90);
    // two ways: 3 turns on stone 1 and none on 0, or so many that stone 1 cuts both to 60
    x.change(0, 3, 60);
    x.change(0, 4, 190);
    int ways = x.hand(0, 58, 200, -1);
    Due.due("P23 several", ways > 1 ? 1 : 0, 1);
  }

  /** Against all recipes, each by turn(). */
  private static void handByAll() {
    int[] edges = {0, 17, 25, 33, 46, 59, 62};
    for (int km : edges) {
      for (int trial = 0; trial < 4; trial++) {
        int sharp = new int[] {0, 38, 55, 97}[trial];
        int steel = new int[] {200, 21, 9, 3}[trial];
        int water = new int[] {4, 0, 9, 0}[trial];
        handAgrees(km, sharp, steel, water);
      }
    }
  }

  private static void handAgrees(int km, int sharp, int steel, int water) {
    int[] ends = new int[625];
    Doors all = with(km, sharp, steel, 0, water);
    for (int row = 0; row < 625; row++) {
      if (row % 25 == 0) all = with(km, sharp, steel, 0, water);
      all.become(0, km);
      all.change(0, 3, sharp);
      all.change(0, 4, steel);
      all.change(0, 5, 0);
      grind(all, row);
      ends[row] = all.ofKnife(0, 3) * 1000 + all.ofKnife(0, 4);
    }
    Doors x = with(km, 0, 0, 77, water);
    for (int row = 0; row < 625; row += 7) {
      x.change(0, 3, ends[row] / 1000);
      x.change(0, 4, ends[row] % 1000);
      int ways = 0;
      int first = -1;
      for (int other = 0; other < 625; other++) {
        if (ends[other] != ends[row]) continue;
        if (ways == 0) first = other;
        ways++;
      }
      String call = "P23 of " + km + ": hand(0, " + sharp + ", " + steel + ")";
      Due.due(call, x.hand(0, sharp, steel, -1), ways);
      Due.due(call + " on " + row % 4, x.hand(0, sharp, steel, row % 4), on(first, row % 4));
    }
  }
}
