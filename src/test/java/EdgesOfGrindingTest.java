/** The sentences about grinding: LEAST, LINE, HAND, and promises 21 to 23. */
final class EdgesOfGrindingTest {
  private static final int BURNT = 4;
  private static final int WORN = 6;

  public static void main(String[] args) {
    fourTurnsOnEach();
    sharpByMore();
    kindThatItIs();
    leastSteel();
    fewestTurns();
    firstAsARow();
    least();
    lineBySteel();
    lineByHeat();
    line();
    fourTurnsEach();
    justAsItIs();
    whateverItBecomes();
    hand();
    Due.end();
  }

  private static Doors with(int km, int sharp, int steel, int heat, int water) {
    Doors x = new Doors();
    x.knife(km, 0, 0);
    x.change(0, 3, sharp);
    x.change(0, 4, steel);
    x.change(0, 5, heat);
    x.set(4, water);
    return x;
  }

  private static void leastIs(Doors x, int sharp, int... due) {
    for (int what = -1; what <= 3; what++) {
      x.tells(due[what + 1], "least", 0, sharp, what);
    }
  }

  private static void noneFor(Doors x, int sharp) {
    for (int what = -1; what <= 3; what++) {
      x.refuses(Due.NONE, "least", 0, sharp, what);
    }
  }

  private static void fourTurnsOnEach() {
    Due.sentence("of all RECIPES with 0 to 4 TURNS on each STONE");
    Doors x = with(0, 0, 200, 0, 9);
    leastIs(x, 0, 0, 0, 0, 0, 0);
    leastIs(x, 80, 24, 4, 4, 4, 4);
    noneFor(x, 81);
    Doors sharp = with(0, 91, 200, 0, 9);
    leastIs(sharp, 99, 0, 0, 0, 0, 4);
    Doors less = with(0, 90, 200, 0, 9);
    leastIs(less, 98, 0, 0, 0, 0, 4);
    noneFor(less, 99);
  }

  private static void sharpByMore() {
    Due.sentence("by which it would be SHARP by x or more");
    Doors x = with(0, 60, 200, 0, 4);
    leastIs(x, 59, 0, 0, 0, 0, 0);
    leastIs(x, 60, 0, 0, 0, 0, 0);
    leastIs(x, 61, 0, 0, 0, 0, 1);
    leastIs(x, 62, 0, 0, 0, 0, 1);
    leastIs(x, 63, 0, 0, 0, 0, 2);
    leastIs(x, 84, 4, 0, 0, 4, 4);
    noneFor(x, 85);
    leastIs(with(0, 99, 200, 0, 4), 99, 0, 0, 0, 0, 0);
  }

  private static void kindThatItIs() {
    Due.sentence("and its edge of the KIND that it is now");
    // all 24 of its STEEL would be taken
    noneFor(with(0, 0, 24, 0, 9), 80);
    leastIs(with(0, 0, 25, 0, 9), 80, 24, 4, 4, 4, 4);
    // no STEEL: any turn makes it WORN, but none doesn't
    leastIs(with(0, 50, 0, 0, 9), 50, 0, 0, 0, 0, 0);
    noneFor(with(0, 50, 0, 0, 9), 51);
    leastIs(with(60, 50, 0, 0, 9), 51, 0, 0, 0, 0, 1);
    // it would get BURNT, which is under KEEN, but not KEEN
    noneFor(with(10, 60, 200, 99, 0), 61);
    leastIs(with(40, 60, 200, 99, 0), 61, 0, 0, 0, 0, 1);
    leastIs(with(10, 60, 200, 56, 0), 62, 0, 0, 0, 0, 1);
    noneFor(with(10, 60, 200, 57, 0), 62);
    noneFor(with(60, 60, 200, 57, 0), 61);
    for (int kind = 0; kind <= WORN; kind++) {
      leastIs(with(10 * kind + 9, 50, 200, 99, 0), 50, 0, 0, 0, 0, 0);
    }
  }

  private static void leastSteel() {
    Due.sentence("the one that takes least STEEL, then with fewest TURNS, then the first as a row.");
    // one turn on stone 0 would do, but takes 3; four on stone 3 take none
    leastIs(with(0, 0, 200, 0, 9), 8, 0, 0, 0, 0, 4);
    leastIs(with(0, 0, 200, 0, 9), 9, 1, 0, 0, 1, 3);
    // a NICKED edge gains 9 on stone 0 for 3, but needs two turns for 4 on stone 1, and gains nothing behind it
    leastIs(with(50, 0, 200, 0, 9), 9, 3, 1, 0, 0, 0);
    leastIs(with(50, 0, 200, 0, 9), 10, 4, 0, 2, 0, 0);
    leastIs(with(50, 0, 200, 0, 9), 15, 5, 1, 1, 0, 0);
    // what is left of a WORN edge's STEEL is all that can be taken
    Doors x = with(60, 0, 2, 0, 9);
    leastIs(x, 9, 2, 0, 1, 4, 4);
    leastIs(x, 16, 2, 4, 4, 4, 4);
    noneFor(x, 17);
  }

  private static void fewestTurns() {
    Due.sentence("the one that takes least STEEL, then with fewest TURNS, then the first as a row.");
    // stone 3 takes no STEEL: only as many turns on it as it needs
    for (int more = 0; more <= 8; more++) {
      leastIs(with(0, 60, 200, 0, 4), 60 + more, 0, 0, 0, 0, (more + 1) / 2);
    }
    // 0, 3, 0, 0 and 2, 0, 0, 0 take 6, both for 18
    leastIs(with(50, 0, 200, 0, 9), 18, 6, 2, 0, 0, 0);
    leastIs(with(60, 0, 0, 0, 9), 4, 0, 0, 0, 0, 4);
    leastIs(with(60, 0, 0, 0, 9), 5, 0, 0, 0, 1, 4);
  }

  private static void firstAsARow() {
    Due.sentence("the one that takes least STEEL, then with fewest TURNS, then the first as a row.");
    // 0, 3, 4, 3 and 2, 0, 4, 4 and 1, 2, 3, 4 .. take 10 by as many turns
    leastIs(with(0, 0, 200, 0, 4), 40, 10, 0, 3, 4, 3);
    // 0, 2, 3, 4 and 1, 0, 4, 4 take 7 by nine turns
    leastIs(with(0, 0, 200, 0, 4), 32, 7, 0, 2, 3, 4);
    // all rows of seven turns are alike to an edge without STEEL: the first has none on stone 0 and 1
    leastIs(with(60, 0, 0, 0, 9), 7, 0, 0, 0, 3, 4);
    leastIs(with(60, 0, 0, 0, 9), 9, 0, 0, 1, 4, 4);
    leastIs(with(60, 0, 0, 0, 9), 13, 0, 1, 4, 4, 4);
  }

  private static void least() {
    Due.sentence("LEAST for x (0 to 99): what -1 how much STEEL it takes, i TURNS on STONE i (0 to 3). BEYOND. NONE.");
    Doors x = Whole.begun();
    x.range(0, 2, 0, "least", 0, 0, 0);
    x.refusesBeyond(0, 99, 1, "least", 0, 0, 0);
    x.range(-1, 3, 2, "least", 0, 0, 0);
    x.tells(0, "least", 0, 0, -1);
    x.refuses(Due.NONE, "least", 0, 99, -1);
    // asked again and again, in between for none
    Doors again = with(0, 0, 200, 0, 9);
    for (int i = 0; i < 3; i++) {
      Due.due("least(0, 80, 3)", again.least(0, 80, 3), 4);
      Due.due("least(0, 1, 3)", again.least(0, 1, 3), 1);
      Due.due("least(0, 81, 3)", again.least(0, 81, 3), Due.NONE);
      Due.due("hand(0, 0, 200, -1)", again.hand(0, 0, 200, -1), 1);
      Due.due("hand(0, 0, 200, 3)", again.hand(0, 0, 200, 3), 0);
    }
    Doors y = with(0, 99, 200, 0, 4);
    y.range(0, 99, 1, "least", 0, 0, -1);
    new Doors().refuses(Due.BEYOND, "least", 0, 0, -1);
  }

  private static void lineBySteel() {
    Due.sentence("LINE of a KNIFE on a STONE: the most TURNS (0 to 60) on it alone, from now on, by none of which STEEL is 0");
    for (int stone = 0; stone < 3; stone++) {
      int less = 3 - stone;
      for (int steel = 0; steel <= less; steel++) {
        with(0, 0, steel, 0, 9).tells(0, "line", 0, stone);
      }
      with(0, 0, less + 1, 0, 9).tells(1, "line", 0, stone);
      with(0, 0, 2 * less, 0, 9).tells(1, "line", 0, stone);
      with(0, 0, 2 * less + 1, 0, 9).tells(2, "line", 0, stone);
      with(0, 0, 59 * less + 1, 0, 9).tells(59, "line", 0, stone);
      with(0, 0, 60 * less, 0, 9).tells(59, "line", 0, stone);
      with(0, 0, 60 * less + 1, 0, 9).tells(60, "line", 0, stone);
      with(0, 0, 61 * less + 1, 0, 9).tells(60, "line", 0, stone);
      with(0, 0, 999, 0, 9).tells(60, "line", 0, stone);
    }
    with(0, 0, 0, 0, 9).tells(0, "line", 0, 3);
    with(0, 0, 1, 0, 9).tells(60, "line", 0, 3);
  }

  private static void lineByHeat() {
    Due.sentence("by none of which STEEL is 0, or HEAT 60 or more.");
    int[] warms = {9, 7, 5, 3};
    for (int stone = 0; stone < 4; stone++) {
      int warm = warms[stone];
      for (int heat = 0; heat <= 99; heat += 3) {
        with(0, 0, 999, heat, 0).tells(heat >= 60 ? 0 : (59 - heat) / warm, "line", 0, stone);
      }
      with(0, 0, 999, 59 - warm, 0).tells(1, "line", 0, stone);
      with(0, 0, 999, 60 - warm, 0).tells(0, "line", 0, stone);
      with(0, 0, 999, 59 - 2 * warm, 0).tells(2, "line", 0, stone);
      with(0, 0, 999, 60 - 2 * warm, 0).tells(1, "line", 0, stone);
    }
    // by a HEAT of 1 a turn: 59 turns, and 60 if it is 59 then
    with(0, 0, 999, 0, 8).tells(59, "line", 0, 0);
    with(0, 0, 999, 0, 4).tells(59, "line", 0, 2);
    with(0, 0, 999, 1, 8).tells(58, "line", 0, 0);
    // hot now doesn't matter, if the turn cools it below 60
    with(0, 0, 999, 60, 4).tells(60, "line", 0, 3);
    with(0, 0, 999, 61, 4).tells(0, "line", 0, 3);
    with(0, 0, 999, 65, 9).tells(60, "line", 0, 3);
    with(0, 0, 999, 66, 9).tells(0, "line", 0, 3);
  }

  private static void line() {
    Due.sentence("LINE on a STONE. BEYOND.");
    Doors x = Whole.begun();
    x.range(0, 2, 0, "line", 0, 0);
    x.range(0, 3, 1, "line", 0, 0);
    new Doors().refuses(Due.BEYOND, "line", 0, 0);
    // of any KIND: also one that is WORN or BURNT already
    for (int kind = 0; kind <= WORN; kind++) {
      with(10 * kind, 0, 7, 0, 4).tells(2, "line", 0, 0);
    }
  }

  private static void fourTurnsEach() {
    Due.sentence("HAND of a KNIFE that was SHARP by x with so much STEEL ahead: how many RECIPES with 0 to 4 TURNS each");
    for (int stone = 0; stone < 4; stone++) {
      for (int turns = 0; turns <= 4; turns++) {
        ground(stone, turns).tells(turns, "hand", 0, 0, 200, stone);
      }
    }
    // a fifth turn on stone 0, or 3, by which no other row leads
    for (int stone = 0; stone < 4; stone += 3) {
      ground(stone, 4).tells(1, "hand", 0, 0, 200, -1);
      ground(stone, 5).tells(0, "hand", 0, 0, 200, -1);
      ground(stone, 5).refuses(Due.NONE, "hand", 0, 0, 200, stone);
    }
  }

  /** An edge that was ground by turns on one stone from SHARP 0, STEEL 200. */
  private static Doors ground(int stone, int turns) {
    return with(0, turns * (8 - 2 * stone), 200 - turns * (3 - stone), 0, 9);
  }

  private static void justAsItIs() {
    Due.sentence("lead from that (with its edge as it is now, HEAT 0) to just how SHARP it is and how much STEEL it has now");
    Doors x = with(0, 60, 200, 99, 0);
    x.tells(1, "hand", 0, 60, 200, -1);
    x.tells(0, "hand", 0, 60, 201, -1);
    x.tells(0, "hand", 0, 60, 199, -1);
    x.tells(0, "hand", 0, 61, 200, -1);
    x.tells(1, "hand", 0, 58, 200, -1);
    x.tells(1, "hand", 0, 58, 200, 3);
    x.tells(0, "hand", 0, 59, 200, -1);
    x.tells(1, "hand", 0, 52, 200, -1);
    x.tells(4, "hand", 0, 52, 200, 3);
    x.tells(0, "hand", 0, 50, 200, -1);
    // HEAT is 62 behind the last turn of all; from HEAT 1 it would be 60 behind the one ahead
    Doors warm = with(10, 50, 187, 99, 0);
    int[] row = {1, 1, 3, 4, 4};
    for (int what = -1; what <= 3; what++) {
      warm.tells(row[what + 1], "hand", 0, 0, 200, what);
    }
    // all there is: 4 turns on each, and not a fifth
    Doors all = with(0, 80, 176, 0, 9);
    all.tells(1, "hand", 0, 0, 200, -1);
    for (int stone = 0; stone < 4; stone++) {
      all.tells(4, "hand", 0, 0, 200, stone);
    }
    all.tells(0, "hand", 0, 0, 201, -1);
    // so sharp already that turns on stone 3 make no difference
    Doors most = with(0, 99, 999, 0, 4);
    most.tells(5, "hand", 0, 99, 999, -1);
    most.tells(0, "hand", 0, 99, 999, 3);
    most.tells(4, "hand", 0, 97, 999, -1);
    most.tells(1, "hand", 0, 97, 999, 3);
    most.tells(3, "hand", 0, 96, 999, -1);
    most.tells(2, "hand", 0, 96, 999, 3);
    // no STEEL from none: on any stone; the first has no turns
    Doors none = with(60, 0, 0, 0, 4);
    none.tells(1, "hand", 0, 0, 0, -1);
    none.change(0, 3, 16);
    none.tells(1, "hand", 0, 0, 0, -1);
    none.tells(4, "hand", 0, 0, 0, 0);
    none.change(0, 3, 15);
    none.tells(4, "hand", 0, 0, 0, -1);
    none.tells(3, "hand", 0, 0, 0, 0);
  }

  private static void whateverItBecomes() {
    Due.sentence("(whatever its edge becomes); the first as a row.");
    // its last 2 of STEEL were ground away on stone 1, by which it got WORN; it is an EDGE now
    Doors worn = with(0, 56, 0, 0, 4);
    worn.tells(1, "hand", 0, 50, 2, -1);
    worn.tells(0, "hand", 0, 50, 2, 0);
    worn.tells(1, "hand", 0, 50, 2, 1);
    worn.tells(0, "hand", 0, 50, 2, 2);
    worn.tells(0, "hand", 0, 50, 2, 3);
    // BURNT by the 4th turn on stone 1, or by the 1st on stone 2, it gains half from there on; it is KEEN now
    Doors hot = with(10, 58, 179, 0, 0);
    int[] ways = {3, 3, 4, 4, 0};
    for (int what = -1; what <= 3; what++) {
      hot.tells(ways[what + 1], "hand", 0, 0, 200, what);
    }
    Doors burnt = with(BURNT * 10, 16, 188, 99, 9);
    burnt.tells(1, "hand", 0, 0, 200, -1);
    burnt.tells(4, "hand", 0, 0, 200, 0);
  }

  private static void hand() {
    Due.sentence("HAND of SHARP x (0 to 99), STEEL (0 to 999): what -1 how many, i TURNS on STONE i of the first (0 to 3)."
        + " BEYOND. NONE: there is none (i 0 to 3).");
    Doors x = Whole.begun();
    x.range(0, 2, 0, "hand", 0, 0, 0, -1);
    x.range(0, 99, 1, "hand", 0, 0, 0, -1);
    x.range(0, 999, 2, "hand", 0, 0, 0, -1);
    x.refusesBeyond(-1, 3, 3, "hand", 0, 0, 0, 0);
    x.tells(0, "hand", 0, 0, 0, -1);
    for (int stone = 0; stone < 4; stone++) {
      x.refuses(Due.NONE, "hand", 0, 0, 0, stone);
    }
    Doors y = with(0, 60, 200, 0, 4);
    y.range(-1, 3, 3, "hand", 0, 60, 200, 0);
    new Doors().refuses(Due.BEYOND, "hand", 0, 0, 0, -1);
  }
}
