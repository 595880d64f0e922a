/** The sentences about draws, voices and the trace: term 3, and promises 24 to 26. */
final class EdgesOfVoicesTest {
  private static final int CUTS = 0;
  private static final int RINGS = 1;
  private static final int GRINDS = 2;
  private static final int TELLS = 3;
  private static final int EDGE = 0;
  private static final int KEEN = 1;
  private static final int COARSE = 2;
  private static final int BLUNT = 3;
  private static final int BURNT = 4;
  private static final int NICKED = 5;
  private static final int WORN = 6;
  private static final int MIN = Integer.MIN_VALUE;
  private static final int MAX = Integer.MAX_VALUE;

  public static void main(String[] args) {
    anySeed();
    numberAndM();
    goRound();
    bodies();
    nextKindAbove();
    traceAsTheyBegan();
    traceOfTheLatest();
    traceAtMost();
    seed();
    voice();
    trace();
    Due.end();
  }

  /** Eight knives; the one with the number is of a kind, with m. */
  private static Doors with(int number, int kind, int m) {
    Doors x = new Doors();
    for (int i = 0; i < 8; i++) {
      x.knife(i == number ? 10 * kind + m : 5, 0, 0);
    }
    return x;
  }

  private static void says(int number, int kind, int m, int act, int x, int due) {
    Doors doors = with(number, kind, m);
    Due.due("knife " + number + ", kind " + kind + ", m " + m + ": voice(.., " + act + ", " + x + ")",
        doors.voice(number, act, x), due);
  }

  private static void anySeed() {
    Due.sentence("z is told (1 at first)");
    Doors x = new Doors();
    x.tells(1, "count", 8);
    int[] all = {0, -1, MIN, MAX, -1000000001, -1000000005, 7};
    int was = 1;
    for (int v : all) {
      Due.due("seed(" + v + ")", x.seed(v), was);
      x.tells(v, "count", 8);
      was = v;
    }
    for (int k = 1; k <= 5; k++) {
      x.tells(0, "told", k);
    }
  }

  private static void numberAndM() {
    Due.sentence("VOICES of a KNIFE, with a number x (ints that go round); n is its number, m as told: 0 cuts, 1 rings, 2 grinds,"
        + " 3 tells.");
    for (int number = 0; number <= 7; number++) {
      says(number, EDGE, 5, CUTS, 0, number);
      says(number, EDGE, 5, RINGS, 0, 2 * number);
      says(number, COARSE, 5, CUTS, 0, 3 * number);
      says(number, WORN, 5, GRINDS, 12, -7 ^ number);
    }
    for (int m = 0; m <= 9; m++) {
      says(3, EDGE, m, GRINDS, 0, -m);
      says(3, BLUNT, m, GRINDS, 0, m);
      says(0, KEEN, m, RINGS, 0, m - 1);
    }
    Doors x = with(2, BURNT, 7);
    x.tells(0, "count", 7);
    x.takes(24 + 6, "voice", 2, RINGS, 9).takes(12, "voice", 2, CUTS, 10);
    x.become(2, 43);
    x.takes(24 + 2, "voice", 2, RINGS, 9);
  }

  private static void goRound() {
    Due.sentence("with a number x (ints that go round)");
    says(0, EDGE, 0, CUTS, MAX, MAX);
    says(1, EDGE, 0, CUTS, MAX, MIN);
    says(7, EDGE, 0, CUTS, MAX, MIN + 6);
    says(0, EDGE, 0, CUTS, MIN, MIN);
    says(0, EDGE, 0, RINGS, (1 << 30) - 1, MAX - 1);
    says(0, EDGE, 0, RINGS, 1 << 30, MIN);
    says(0, EDGE, 0, RINGS, MIN, 0);
    says(0, EDGE, 0, GRINDS, MIN, MIN);
    says(0, EDGE, 1, GRINDS, MIN, MAX);
    says(0, EDGE, 9, GRINDS, MIN + 9, MIN);
    says(0, BLUNT, 0, GRINDS, MIN, MIN);
    says(0, BLUNT, 9, GRINDS, MIN, MIN + 9);
    says(0, BLUNT, 0, GRINDS, MAX, MIN + 1);
    says(0, KEEN, 0, RINGS, 1 << 30, MAX);
    says(0, COARSE, 0, CUTS, MAX, MAX * 3);
    says(0, COARSE, 0, CUTS, MIN, MIN);
    says(0, BURNT, 0, RINGS, MAX, -1);
    says(0, BURNT, 1, RINGS, (1 << 30) - 1, MIN);
    says(0, NICKED, 0, TELLS, MIN, MIN - 6);
    says(0, WORN, 0, TELLS, MAX, -2 - (-2 ^ (MIN + 1)));
    says(7, WORN, 0, GRINDS, MIN, MIN ^ 7);
    says(0, EDGE, 0, TELLS, MAX, -2 ^ MAX);
  }

  private static void bodies() {
    Due.sentence("BODIES: EDGE: 10 cuts: x + n. 11 rings: cuts(x) * 2. 12 grinds: x - m. 13 tells: rings(x) ^ grinds(x).");
    says(3, EDGE, 5, CUTS, 10, 13);
    says(3, EDGE, 5, RINGS, 10, 26);
    says(3, EDGE, 5, GRINDS, 10, 5);
    says(3, EDGE, 5, TELLS, 10, 26 ^ 5);
    Due.sentence("KEEN: 20 rings: super.rings(x) - grinds(1). COARSE: 30 cuts: super.cuts(x) * 3."
        + " BLUNT: 40 grinds: -super.grinds(x).");
    says(3, KEEN, 5, RINGS, 10, 26 + 4);
    says(3, KEEN, 5, TELLS, 10, 30 ^ 5);
    says(3, COARSE, 5, CUTS, 10, 39);
    says(3, COARSE, 5, RINGS, 10, 78);
    says(3, BLUNT, 5, GRINDS, 10, -5);
    says(3, BLUNT, 5, TELLS, 10, 26 ^ -5);
    Due.sentence("BURNT: 50 rings: super.rings(x + 1). NICKED: 60 tells: super.tells(x) - cuts(2)."
        + " WORN: 70 grinds: super.grinds(x) ^ n. 71 tells: rings(x) - super.tells(x).");
    says(3, BURNT, 5, RINGS, 10, 28 + 4);
    says(3, BURNT, 5, TELLS, 10, 32 ^ 5);
    says(3, NICKED, 5, TELLS, 10, (78 ^ 5) - 15);
    says(3, WORN, 5, GRINDS, 10, -5 ^ 3);
    says(3, WORN, 5, TELLS, 10, 26 - (26 ^ (-5 ^ 3)));
  }

  /** The bodies by which a knife of a kind speaks. */
  private static void speaksBy(int kind, int act, int... bodies) {
    Doors x = with(4, kind, 6);
    x.voice(4, act, 100);
    x.tells(bodies.length, "count", 7);
    for (int i = 0; i < bodies.length; i++) {
      x.tells(bodies[i], "trace", i);
    }
    x.refuses(Due.NONE, "trace", bodies.length);
  }

  private static void nextKindAbove() {
    Due.sentence("cuts(..) is the BODY of its KIND, or of the next KIND above that has one; super.cuts(..) that from the KIND above"
        + " the BODY's on.");
    speaksBy(EDGE, CUTS, 10);
    speaksBy(KEEN, CUTS, 10);
    speaksBy(COARSE, CUTS, 30, 10);
    speaksBy(BURNT, CUTS, 10);
    speaksBy(NICKED, CUTS, 30, 10);
    speaksBy(WORN, CUTS, 10);
    speaksBy(KEEN, RINGS, 20, 11, 10, 12);
    speaksBy(BURNT, RINGS, 50, 20, 11, 10, 12);
    speaksBy(COARSE, RINGS, 11, 30, 10);
    speaksBy(NICKED, RINGS, 11, 30, 10);
    speaksBy(WORN, RINGS, 11, 10);
    speaksBy(BLUNT, GRINDS, 40, 12);
    speaksBy(WORN, GRINDS, 70, 40, 12);
    speaksBy(NICKED, GRINDS, 12);
  }

  private static void traceAsTheyBegan() {
    Due.sentence("THE TRACE: the numbers of BODIES of the latest voice(), as they began (what stands left is worked out first)");
    speaksBy(EDGE, TELLS, 13, 11, 10, 12);
    speaksBy(KEEN, TELLS, 13, 20, 11, 10, 12, 12);
    speaksBy(COARSE, TELLS, 13, 11, 30, 10, 12);
    speaksBy(BLUNT, TELLS, 13, 11, 10, 40, 12);
    speaksBy(BURNT, TELLS, 13, 50, 20, 11, 10, 12, 12);
    speaksBy(NICKED, TELLS, 60, 13, 11, 30, 10, 12, 30, 10);
    speaksBy(WORN, TELLS, 71, 11, 10, 13, 11, 10, 70, 40, 12);
  }

  private static void traceOfTheLatest() {
    Due.sentence("THE TRACE: the numbers of BODIES of the latest voice()");
    Doors x = with(0, WORN, 0);
    x.tells(0, "count", 7);
    x.refuses(Due.NONE, "trace", 0);
    x.voice(0, TELLS, 1);
    x.tells(9, "count", 7);
    x.voice(1, CUTS, 1);
    x.tells(1, "count", 7);
    x.tells(10, "trace", 0);
    x.refuses(Due.NONE, "trace", 1);
    x.refuses(Due.BEYOND, "voice", 8, TELLS, 1);
    x.refuses(Due.BEYOND, "voice", 0, 4, 1);
  }

  private static void traceAtMost() {
    Due.cannotBeReached("as they began (what stands left is worked out first), the first 40.",
        "no voice has more than 9 BODIES: those of a WORN edge that tells");
    Doors x = new Doors();
    for (int kind = EDGE; kind <= WORN; kind++) {
      x.knife(10 * kind + 9, 0, 0);
      for (int act = CUTS; act <= TELLS; act++) {
        x.voice(kind, act, MAX);
        Due.due("BODIES of kind " + kind + ", act " + act + ", are few", x.count(7) <= 9 ? 1 : 0, 1);
      }
    }
  }

  private static void seed() {
    Due.sentence("z becomes v: what it was (any number).");
    Doors x = Whole.begun();
    int z = x.again().count(8);
    x.takes(z, "seed", MIN).takes(MIN, "seed", MAX).takes(MAX, "seed", -1000000001).takes(-1000000001, "seed", z);
    Doors back = x.again();
    back.seed(5);
    back.seed(z);
    Whole.same("z alone is set, and set back:", back, x, 0);
  }

  private static void voice() {
    Due.sentence("A VOICE of a KNIFE: any number. BEYOND.");
    Doors x = Whole.begun();
    x.range(0, 2, 0, "voice", 0, 0, 0);
    x.range(0, 3, 1, "voice", 0, 0, 0);
    Whole.full().range(0, 7, 0, "voice", 0, 0, 0);
    new Doors().refuses(Due.BEYOND, "voice", 0, 0, 0);
    int[] any = {MIN, -1000000005, -1000000001, -1000000000, 0, MAX};
    Doors y = new Doors();
    y.knife(0, 0, 0);
    for (int v : any) {
      Due.due("voice(0, 0, " + v + ")", y.voice(0, CUTS, v), v);
    }
    for (int k = 1; k <= 5; k++) {
      y.tells(0, "told", k);
    }
  }

  private static void trace() {
    Due.sentence("THE TRACE's i-th. NONE: there is none such.");
    Doors x = Whole.begun();
    int bodies = x.again().count(7);
    x.tells(13, "trace", 0);
    x.tells(12, "trace", bodies - 1);
    int[] none = {-1, bodies, bodies + 1, 39, 40, 41, MIN, MAX};
    for (int i : none) {
      x.refuses(Due.NONE, "trace", i);
      new Doors().refuses(Due.NONE, "trace", i);
    }
    new Doors().refuses(Due.NONE, "trace", 0);
  }
}
