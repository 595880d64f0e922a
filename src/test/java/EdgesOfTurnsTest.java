/** The sentences about how edges get dull and are ground: DULLS, GAINS, a TURN, and promise 8. */
final class EdgesOfTurnsTest {
  private static final int EDGE = 0;
  private static final int KEEN = 1;
  private static final int COARSE = 2;
  private static final int BLUNT = 3;
  private static final int BURNT = 4;
  private static final int NICKED = 5;
  private static final int WORN = 6;
  private static final int[] SHARPEST = {40, 60, 80, 99};

  public static void main(String[] args) {
    dullsOfEdges();
    dullsOfBlunt();
    dullsWithWears();
    wearsOfAKnife();
    dullsAtMost();
    gainsByKind();
    sharpAtMost();
    steelAtLeast();
    heatHeld();
    worn();
    burnt();
    wornAheadOfBurnt();
    turn();
    Due.end();
  }

  private static Doors with(int kind, int m, int sharp, int steel, int heat) {
    Doors x = new Doors();
    x.knife(10 * kind + m, 0, 0);
    x.change(0, 3, sharp);
    x.change(0, 4, steel);
    x.change(0, 5, heat);
    return x;
  }

  private static void dulls(int kind, int m, int use, int due) {
    Doors x = with(kind, m, 60, 200, 0);
    x.change(0, 7, use);
    Due.due("DULLS of kind " + kind + ", m " + m + ", use " + use, x.ofKnife(0, 9), due);
  }

  private static void dullsOfEdges() {
    Due.sentence("EDGE: 1, and USE. KEEN: twice as EDGE. COARSE: as EDGE, less 1.");
    dulls(EDGE, 9, 0, 1);
    dulls(EDGE, 9, 3, 4);
    dulls(KEEN, 9, 0, 2);
    dulls(KEEN, 9, 3, 8);
    dulls(COARSE, 9, 0, 0);
    dulls(COARSE, 9, 3, 3);
    Due.sentence("BURNT: as KEEN, and m. NICKED: as COARSE, and m by 2. WORN: twice as BLUNT.");
    dulls(BURNT, 0, 0, 2);
    dulls(BURNT, 9, 0, 11);
    dulls(BURNT, 0, 3, 8);
    dulls(BURNT, 9, 3, 17);
    dulls(NICKED, 0, 0, 0);
    dulls(NICKED, 1, 0, 0);
    dulls(NICKED, 2, 0, 1);
    dulls(NICKED, 9, 0, 4);
    dulls(NICKED, 9, 3, 7);
    dulls(WORN, 9, 3, 2);
  }

  private static void dullsOfBlunt() {
    Due.sentence("BLUNT: 1, if SHARP is 20 or more, else 0.");
    int[] sharp = {0, 1, 18, 19, 20, 21, 99};
    for (int s : sharp) {
      with(BLUNT, 9, s, 200, 0).tells(s >= 20 ? 1 : 0, "ofKnife", 0, 9);
      with(WORN, 9, s, 200, 0).tells(s >= 20 ? 2 : 0, "ofKnife", 0, 9);
      with(EDGE, 9, s, 200, 0).tells(1, "ofKnife", 0, 9);
    }
  }

  /** DULLS of an EDGE for bone, which are 3 without a TEXT. */
  private static void dullsWith(String wears, int due) {
    Doors x = with(EDGE, 0, 60, 200, 0);
    x.change(0, 7, 2);
    Due.law(x, 0, wears);
    Due.due("DULLS with " + wears, x.ofKnife(0, 9), due);
  }

  private static void dullsWithWears() {
    Due.sentence("And what WEARS (a TEXT) gives; held within 0 to 99.");
    dullsWith("0", 3);
    dullsWith("0-1", 2);
    dullsWith("0-2", 1);
    dullsWith("0-3", 0);
    dullsWith("0-4", 0);
    dullsWith("0-9", 0);
    dullsWith("0-10", 0);
    dullsWith("8", 11);
    dullsWith("9", 12);
    dullsWith("10", 12);
    dullsWith("9999", 12);
    // held once: COARSE for bread is 0 with nothing to hold, and is not below it with 1 less
    Doors x = with(COARSE, 0, 60, 200, 0);
    Due.law(x, 0, "0-1");
    x.tells(0, "ofKnife", 0, 9);
    Due.law(x, 0, "1");
    x.tells(1, "ofKnife", 0, 9);
  }

  /** What each NAME of WEARS is for a knife of which no two numbers are alike. */
  private static void wearsOfAKnife() {
    Due.sentence("NAMES u USE, s SHARP, t STEEL, m m; held within -9 to 9");
    Doors x = new Doors();
    for (int i = 0; i < 4; i++) {
      x.knife(0, 0, 0);
    }
    x.knife(17, 5, 92);
    x.change(4, 3, 61);
    x.change(4, 4, 201);
    x.change(4, 5, 33);
    String[] names = {"u=2", "s=61", "t=201", "m=7"};
    for (String name : names) {
      x.tells(6, "ofKnife", 4, 9);
      Doors y = x.again();
      Due.law(y, 0, name);
      y.tells(7, "ofKnife", 4, 9);
    }
    int[] parts = {7, 3, 4};
    String[] ends = {"u=3&s=61&t=201&m=7", "u=3&s=99&t=201&m=7", "u=3&s=99&t=999&m=7"};
    int[] most = {3, 99, 999};
    for (int i = 0; i < parts.length; i++) {
      x.change(4, parts[i], most[i]);
      Doors y = x.again();
      Due.law(y, 0, ends[i]);
      y.tells(9, "ofKnife", 4, 9);
    }
  }

  private static void dullsAtMost() {
    Due.cannotBeReached("held within 0 to 99", "DULLS are 26 at most: BURNT with m 9 for string, and 9 by WEARS");
    Doors x = with(BURNT, 9, 60, 200, 0);
    x.change(0, 7, 3);
    Due.law(x, 0, "9999");
    x.tells(26, "ofKnife", 0, 9);
  }

  private static void gains(int kind, int... due) {
    for (int stone = 0; stone < 4; stone++) {
      with(kind, 9, 0, 200, 0).tells(due[stone], "gains", 0, stone);
      with(kind, 9, 0, 200, 0).takes(due[stone], "turn", 0, stone, 1).tells(due[stone], "ofKnife", 0, 3);
    }
  }

  private static void gainsByKind() {
    Due.sentence("EDGE: 8 less twice t. KEEN: as EDGE.");
    gains(EDGE, 8, 6, 4, 2);
    gains(KEEN, 8, 6, 4, 2);
    Due.sentence("COARSE: as EDGE, and 1 on STONE 0. BLUNT: as EDGE, less 1.");
    gains(COARSE, 9, 6, 4, 2);
    gains(BLUNT, 7, 5, 3, 1);
    Due.sentence("BURNT: half of as KEEN. NICKED: as COARSE on STONE 0 or 1, 0 on 2 or 3. WORN: 1.");
    gains(BURNT, 4, 3, 2, 1);
    gains(NICKED, 9, 6, 0, 0);
    gains(WORN, 1, 1, 1, 1);
  }

  private static void sharpAtMost() {
    Due.sentence("SHARP is GAINS more, but no more than 40, 60, 80, 99 (by t) in any case");
    for (int stone = 0; stone < 4; stone++) {
      int gains = 8 - 2 * stone;
      int most = SHARPEST[stone];
      with(EDGE, 0, most - gains - 1, 200, 0).takes(most - 1, "turn", 0, stone, 1);
      with(EDGE, 0, most - gains, 200, 0).takes(most, "turn", 0, stone, 1);
      with(EDGE, 0, most - gains + 1, 200, 0).takes(most, "turn", 0, stone, 1);
      with(EDGE, 0, most - 1, 200, 0).takes(most, "turn", 0, stone, 1);
      with(EDGE, 0, most, 200, 0).takes(most, "turn", 0, stone, 1);
      // in any case: also one that is sharper than that already
      with(EDGE, 0, Math.min(most + 1, 99), 200, 0).takes(most, "turn", 0, stone, 1);
      with(EDGE, 0, 99, 200, 0).takes(most, "turn", 0, stone, 1);
      with(NICKED, 0, 99, 200, 0).takes(most, "turn", 0, stone, 1).tells(most, "ofKnife", 0, 3);
      with(WORN, 0, 99, 200, 0).takes(most, "turn", 0, stone, 1);
    }
  }

  private static void steelAtLeast() {
    Due.sentence("STEEL is 3 less t less (0 at least)");
    for (int stone = 0; stone < 4; stone++) {
      int less = 3 - stone;
      with(EDGE, 0, 0, 999, 0).takes(8 - 2 * stone, "turn", 0, stone, 1).tells(999 - less, "ofKnife", 0, 4);
      for (int steel = 0; steel <= 4; steel++) {
        Doors x = with(EDGE, 0, 0, steel, 0).takes(8 - 2 * stone, "turn", 0, stone, 1);
        x.tells(Math.max(steel - less, 0), "ofKnife", 0, 4);
        x.tells(steel <= less ? WORN : EDGE, "ofKnife", 0, 0);
      }
    }
  }

  private static void heatIs(int stone, int water, int heat, int due) {
    // a WORN edge without STEEL stays as it is, however hot
    Doors x = with(WORN, 0, 0, 0, heat);
    x.set(4, water);
    x.turn(0, stone, 1);
    Due.due("HEAT on stone " + stone + ", water " + water + ", from " + heat, x.ofKnife(0, 5), due);
  }

  private static void heatHeld() {
    Due.sentence("HEAT is 9 less twice t more, less WATER (held within 0 to 99).");
    int[] warms = {9, 7, 5, 3};
    for (int stone = 0; stone < 4; stone++) {
      int warm = warms[stone];
      heatIs(stone, 0, 0, warm);
      heatIs(stone, 0, 98 - warm, 98);
      heatIs(stone, 0, 99 - warm, 99);
      heatIs(stone, 0, 100 - warm, 99);
      heatIs(stone, 0, 99, 99);
      heatIs(stone, 9, 0, 0);
      heatIs(stone, 9, 9 - warm, 0);
      heatIs(stone, 9, 10 - warm, 1);
      if (warm < 9) heatIs(stone, 9, 8 - warm, 0);
      heatIs(stone, 9, 99, 90 + warm);
    }
  }

  private static void worn() {
    Due.sentence("Then, if STEEL is 0, the edge is WORN");
    for (int kind = EDGE; kind <= WORN; kind++) {
      Doors kept = with(kind, 7, 0, 4, 0);
      kept.turn(0, 0, 1);
      kept.tells(kind, "ofKnife", 0, 0);
      kept.tells(1, "ofKnife", 0, 4);
      for (int steel = 0; steel <= 3; steel++) {
        Doors x = with(kind, 7, 0, steel, 0);
        x.turn(0, 0, 1);
        x.tells(WORN, "ofKnife", 0, 0);
        x.tells(7, "ofKnife", 0, 1);
      }
      // STEEL that is 0 already, on a stone that takes none
      Doors y = with(kind, 7, 0, 0, 0);
      y.turn(0, 3, 1);
      y.tells(WORN, "ofKnife", 0, 0);
    }
  }

  private static void burnt() {
    Due.sentence("else, if HEAT is 60 or more, it is BURNT, and HEAT is 0 (m stays).");
    int[] warms = {5, 3, 1};
    for (int kind = EDGE; kind <= WORN; kind++) {
      for (int stone = 0; stone < 3; stone++) {
        Doors cool = with(kind, 8, 0, 200, 59 - warms[stone]);
        cool.turn(0, stone, 1);
        cool.tells(kind, "ofKnife", 0, 0);
        cool.tells(59, "ofKnife", 0, 5);
        int[] hots = {60 - warms[stone], 61 - warms[stone], 99};
        for (int hot : hots) {
          Doors x = with(kind, 8, 0, 200, hot);
          x.turn(0, stone, 1);
          x.tells(BURNT, "ofKnife", 0, 0);
          x.tells(0, "ofKnife", 0, 5);
          x.tells(8, "ofKnife", 0, 1);
        }
      }
    }
    // on stone 3 the water cools: 61 is 60 then, 60 is 59
    Doors hot = with(EDGE, 0, 0, 200, 61);
    hot.turn(0, 3, 1);
    hot.tells(BURNT, "ofKnife", 0, 0);
    Doors cool = with(EDGE, 0, 0, 200, 60);
    cool.turn(0, 3, 1);
    cool.tells(EDGE, "ofKnife", 0, 0);
    cool.tells(59, "ofKnife", 0, 5);
  }

  private static void wornAheadOfBurnt() {
    Due.sentence("if STEEL is 0, the edge is WORN; else, if HEAT is 60 or more, it is BURNT, and HEAT is 0 (m stays).");
    Doors x = with(KEEN, 4, 0, 3, 90);
    x.turn(0, 0, 1);
    x.tells(WORN, "ofKnife", 0, 0);
    x.tells(95, "ofKnife", 0, 5);
    x.tells(4, "ofKnife", 0, 1);
    Doors y = with(KEEN, 4, 0, 4, 90);
    y.turn(0, 0, 1);
    y.tells(BURNT, "ofKnife", 0, 0);
    y.tells(0, "ofKnife", 0, 5);
    y.tells(4, "ofKnife", 0, 1);
    // the turn that burns gains as ahead of it; the next one as BURNT
    y.takes(12, "turn", 0, 0, 1);
  }

  private static void turn() {
    Due.sentence("n (1 to 60) TURNS of a KNIFE on a STONE now: SHARP. BEYOND.");
    Doors x = Whole.begun();
    x.range(0, 2, 0, "turn", 0, 0, 1);
    x.range(0, 3, 1, "turn", 0, 0, 1);
    x.range(1, 60, 2, "turn", 0, 0, 1);
    new Doors().refuses(Due.BEYOND, "turn", 0, 0, 1);
    for (int stone = 0; stone < 4; stone++) {
      Doors once = with(KEEN, 6, 0, 100, 0);
      Doors bySteps = with(KEEN, 6, 0, 100, 0);
      for (int i = 0; i < 59; i++) {
        bySteps.turn(0, stone, 1);
      }
      int sharp = bySteps.turn(0, stone, 1);
      Due.due("60 turns on " + stone, once.turn(0, stone, 60), sharp);
      for (int what = 0; what <= 9; what++) {
        once.tells(bySteps.ofKnife(0, what), "ofKnife", 0, what);
      }
    }
    // no visit, no day: nothing is paid, none is GROUND
    Doors y = with(EDGE, 0, 0, 200, 0);
    y.turn(0, 0, 60);
    y.tells(0, "count", 2);
    y.tells(0, "count", 0);
    y.tells(0, "ofKnife", 0, 8);
  }
}
