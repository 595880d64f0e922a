/** The sentences about sheets: term 4, and promises 27 to 30. */
final class EdgesOfSheetsTest {
  private static final int MIN = Integer.MIN_VALUE;
  private static final int MAX = Integer.MAX_VALUE;
  private static final int[] BITS = {8, 16, 32};

  public static void main(String[] args) {
    fourSheets();
    bitsOfSheets();
    numbersAtMost();
    missing();
    belowNothing();
    allNothing();
    sheet();
    lowestBits();
    put();
    asTheyAllWere();
    standThere();
    moveOfNone();
    farBeyond();
    move();
    upToTheFirstRefused();
    upToFull();
    notWhole();
    knives();
    Due.end();
  }

  private static Doors one(int bits, int n) {
    Doors x = new Doors();
    x.sheet(0, bits, n);
    return x;
  }

  /** A number (0 to 69) of a sheet of so many bits, read as a knife's km by an object just like this one. */
  private static int number(Doors x, int sheet, int bits, int i) {
    Doors y = x.again();
    y.sheet(3, bits, 3);
    y.move(sheet, i, 3, 0, 1);
    if (y.knives(3) != 1) return -1;
    int knife = y.count(1) - 1;
    return 10 * y.ofKnife(knife, 0) + y.ofKnife(knife, 1);
  }

  private static void fourSheets() {
    Due.sentence("SHEETS 0 .. 3 are rows of 8, 16, 32 bits, at most 40 numbers, or missing (as at first).");
    Doors x = new Doors();
    for (int sheet = 0; sheet <= 3; sheet++) {
      x.refuses(Due.NONE, "put", sheet, 0, 0);
      Doors y = x.takes(1, "sheet", sheet, 8, 3);
      for (int other = 0; other <= 3; other++) {
        if (other != sheet) y.refuses(Due.NONE, "put", other, 0, 0);
      }
      y.takes(1, "put", sheet, 2, 0);
      y.takes(1, "knives", sheet);
    }
    int[] none = {-1, 4, MIN, MAX};
    for (int sheet : none) {
      x.refuses(Due.BEYOND, "sheet", sheet, 8, 3);
      x.refuses(Due.BEYOND, "sheet", sheet, 0, 0);
      x.refuses(Due.BEYOND, "put", sheet, 0, 0);
      x.refuses(Due.BEYOND, "move", sheet, 0, 0, 0, 0);
      x.refuses(Due.BEYOND, "move", 0, 0, sheet, 0, 0);
      x.refuses(Due.BEYOND, "knives", sheet);
    }
  }

  private static void bitsOfSheets() {
    Due.sentence("SHEETS 0 .. 3 are rows of 8, 16, 32 bits");
    Doors x = Whole.begun();
    int[] unwanted = {MIN, -32, -8, -1, 1, 4, 7, 9, 15, 17, 24, 31, 33, 64, MAX};
    for (int bits : unwanted) {
      x.refuses(Due.BEYOND, "sheet", 0, bits, 3);
      x.refuses(Due.BEYOND, "sheet", 0, bits, -1);
    }
    for (int bits : BITS) {
      for (int other : BITS) {
        Doors y = one(bits, 1);
        y.sheet(1, other, 1);
        if (bits == other) {
          y.takes(1, "move", 0, 0, 1, 0, 1);
        } else {
          y.refuses(Due.KIND, "move", 0, 0, 1, 0, 1);
        }
      }
    }
  }

  private static void numbersAtMost() {
    Due.sentence("at most 40 numbers");
    for (int bits : BITS) {
      int[] sizes = {0, 1, 39, 40};
      for (int n : sizes) {
        Doors x = new Doors().takes(1, "sheet", 0, bits, n);
        if (n > 0) x.takes(1, "put", 0, n - 1, 1);
        x.refuses(Due.BEYOND, "put", 0, n, 1);
        x.takes(Math.min(n / 3, 8), "knives", 0);
      }
      Doors had = one(bits, 5);
      had.refuses(Due.BEYOND, "sheet", 0, bits, 41);
      had.refuses(Due.BEYOND, "sheet", 0, bits, MAX);
      Doors last = one(bits, 40);
      last.put(0, 39, 69);
      Due.due("number 39", number(last, 0, bits, 39), 69);
      Due.due("number 38", number(last, 0, bits, 38), 0);
    }
  }

  private static void missing() {
    Due.sentence("or missing (as at first)");
    Doors x = one(16, 40);
    int[] any = {0, 1, 40, 41, -1, MIN, MAX};
    for (int n : any) {
      Doors y = x.takes(1, "sheet", 0, 0, n);
      y.refuses(Due.NONE, "put", 0, 0, 0);
      y.refuses(Due.NONE, "knives", 0);
      y.refuses(Due.NONE, "move", 0, 0, 0, 0, 0);
      for (int k = 1; k <= 5; k++) {
        y.tells(0, "told", k);
      }
      // missing already, too
      y.takes(1, "sheet", 0, 0, n).refuses(Due.NONE, "put", 0, 0, 0);
      y.takes(1, "sheet", 0, 8, 40).takes(8, "knives", 0);
    }
    // no numbers is not missing
    Doors empty = one(8, 0);
    empty.refuses(Due.BEYOND, "put", 0, 0, 0);
    empty.takes(0, "knives", 0);
    empty.takes(0, "move", 0, 0, 0, 0, 0);
  }

  private static void belowNothing() {
    Due.sentence("STATE: n is below 0 (ahead of BEYOND of n).");
    Doors x = Whole.begun();
    int[] below = {-1, -2, -40, -41, MIN};
    for (int n : below) {
      for (int bits : BITS) {
        x.refuses(Due.STATE, "sheet", 0, bits, n);
        x.refuses(Due.STATE, "sheet", 3, bits, n);
      }
      x.refuses(Due.BEYOND, "sheet", 4, 8, n);
      x.refuses(Due.BEYOND, "sheet", 0, 9, n);
    }
    x.takes(1, "sheet", 0, 8, 0);
  }

  private static void allNothing() {
    Due.sentence("A SHEET has n numbers, all 0, of so many bits (8, 16, 32; 0: it is missing, n doesn't matter): 1.");
    Doors x = one(32, 40);
    for (int i = 0; i < 40; i++) {
      x.put(0, i, -1);
    }
    for (int bits : BITS) {
      Doors y = x.takes(1, "sheet", 0, bits, 40);
      for (int i = 0; i < 40; i++) {
        Due.due("number " + i, number(y, 0, bits, i), 0);
      }
      Doors z = x.takes(1, "sheet", 0, 0, 0).takes(1, "sheet", 0, bits, 40);
      Due.due("number 0", number(z, 0, bits, 0), 0);
      Due.due("number 39", number(z, 0, bits, 39), 0);
    }
  }

  private static void sheet() {
    Due.sentence("(8, 16, 32; 0: it is missing, n doesn't matter): 1. BEYOND. STATE: n is below 0 (ahead of BEYOND of n).");
    Doors x = Whole.begun();
    x.range(0, 3, 0, "sheet", 0, 32, 5);
    x.range(0, 3, 0, "sheet", 0, 0, 5);
    x.refuses(Due.STATE, "sheet", 0, 8, -1);
    x.takes(1, "sheet", 0, 8, 0);
    x.takes(1, "sheet", 0, 8, 40);
    x.refuses(Due.BEYOND, "sheet", 0, 8, 41);
    // the other sheets stay
    Doors y = Whole.begun();
    y.sheet(3, 8, 5);
    y.sheet(3, 0, 0);
    Whole.same("a sheet that was made and is missing again:", y, Whole.begun(), 0);
  }

  private static void lowestBits() {
    Due.sentence("Number i of a SHEET becomes v (its lowest bits): 1.");
    for (int bits : BITS) {
      long round = 1L << bits;
      int[] kept = {0, 1, 69};
      for (int v : kept) {
        long[] alike = {v, v + round, v - round, v + 3 * round};
        for (long w : alike) {
          Doors x = one(bits, 3);
          Due.due("put(0, 0, " + (int) w + ")", x.put(0, 0, (int) w), 1);
          Due.due(bits + " lowest bits of " + (int) w, number(x, 0, bits, 0), v);
        }
      }
      int[] unlike = {70, -1, MIN | 70, 255, 128};
      for (int v : unlike) {
        Doors x = one(bits, 3);
        x.put(0, 0, v);
        x.takes(0, "knives", 0);
      }
    }
    // one bit above those kept is gone, and one below isn't
    String[] none = {"8", "16", "32"};
    for (int i = 0; i < 3; i++) {
      for (int bit = 7; bit < 32; bit++) {
        Doors x = one(BITS[i], 3);
        x.put(0, 0, 1 << bit);
        Due.due("bit " + bit + " of " + none[i], x.knives(0), bit >= BITS[i] ? 1 : 0);
      }
    }
  }

  private static void put() {
    Due.sentence("BEYOND: no such SHEET. NONE: it is missing. BEYOND: no such number.");
    Doors x = Whole.begun();
    x.refusesBeyond(0, 3, 0, "put", 0, 0, 0);
    x.refuses(Due.NONE, "put", 3, 0, 0);
    x.refuses(Due.NONE, "put", 3, -1, 0);
    x.refuses(Due.NONE, "put", 3, MAX, 0);
    x.range(0, 5, 1, "put", 0, 0, 0);
    x.range(0, 8, 1, "put", 1, 0, 0);
    x.range(0, 2, 1, "put", 2, 0, 0);
    one(8, 40).range(0, 39, 1, "put", 0, 0, 0);
    one(8, 0).refuses(Due.BEYOND, "put", 0, 0, 0);
    Doors one = one(8, 1);
    one.range(0, 0, 1, "put", 0, 0, 0);
    // any v is taken
    int[] any = {MIN, -1, 0, 256, MAX};
    for (int v : any) {
      one.takes(1, "put", 0, 0, v);
    }
  }

  private static Doors rows(int bits, int n) {
    Doors x = one(bits, n);
    x.sheet(1, bits, n);
    for (int i = 0; i < n; i++) {
      x.put(0, i, i + 1);
      x.put(1, i, i + 41);
    }
    return x;
  }

  private static void asTheyAllWere() {
    Due.sentence("n numbers of a SHEET, from number i on, come to another one (or the same), from its number j on, as they all were: n.");
    for (int bits : BITS) {
      int[][] moves = {{0, 1, 9}, {1, 0, 9}, {0, 9, 1}, {9, 0, 1}, {0, 3, 7}, {3, 0, 7}, {2, 4, 6}, {4, 2, 6}, {0, 0, 10}, {5, 5, 5}};
      for (int[] m : moves) {
        Doors same = rows(bits, 10).takes(m[2], "move", 0, m[0], 0, m[1], m[2]);
        Doors other = rows(bits, 10).takes(m[2], "move", 0, m[0], 1, m[1], m[2]);
        for (int i = 0; i < 10; i++) {
          boolean came = i >= m[1] && i < m[1] + m[2];
          int from = m[0] + i - m[1];
          Due.due("number " + i + " of the same", number(same, 0, bits, i), came ? from + 1 : i + 1);
          Due.due("number " + i + " of another", number(other, 1, bits, i), came ? from + 1 : i + 41);
          Due.due("number " + i + " stays", number(other, 0, bits, i), i + 1);
        }
      }
    }
  }

  private static void standThere() {
    Due.sentence("BEYOND: n, i, or j is below 0, or they don't stand there.");
    Doors x = rows(16, 6);
    x.sheet(1, 16, 4);
    x.takes(4, "move", 0, 2, 1, 0, 4);
    x.refuses(Due.BEYOND, "move", 0, 3, 1, 0, 4);
    x.refuses(Due.BEYOND, "move", 0, 2, 1, 1, 4);
    x.refuses(Due.BEYOND, "move", 0, 1, 1, 0, 5);
    x.takes(1, "move", 0, 5, 1, 3, 1);
    x.refuses(Due.BEYOND, "move", 0, 6, 1, 3, 1);
    x.refuses(Due.BEYOND, "move", 0, 5, 1, 4, 1);
    x.refuses(Due.BEYOND, "move", 0, 5, 1, 3, 2);
    x.takes(6, "move", 0, 0, 0, 0, 6);
    x.refuses(Due.BEYOND, "move", 0, 0, 0, 0, 7);
    x.refuses(Due.BEYOND, "move", 0, -1, 1, 0, 1);
    x.refuses(Due.BEYOND, "move", 0, 0, 1, -1, 1);
    x.refuses(Due.BEYOND, "move", 0, 0, 1, 0, -1);
    x.takes(1, "move", 0, 0, 1, 0, 1);
    rows(32, 40).takes(40, "move", 0, 0, 1, 0, 40);
    rows(32, 40).refuses(Due.BEYOND, "move", 0, 0, 1, 0, 41);
    rows(32, 40).takes(1, "move", 0, 39, 1, 39, 1);
    rows(32, 40).refuses(Due.BEYOND, "move", 0, 40, 1, 39, 1);
    rows(32, 40).refuses(Due.BEYOND, "move", 0, 39, 1, 40, 1);
  }

  private static void moveOfNone() {
    Due.sentence("BEYOND: n, i, or j is below 0, or they don't stand there.");
    Doors x = rows(8, 5);
    x.takes(0, "move", 0, 0, 1, 0, 0);
    x.takes(0, "move", 0, 5, 1, 5, 0);
    Whole.same("none moved:", x.takes(0, "move", 0, 5, 1, 0, 0), x, 0);
    x.refuses(Due.BEYOND, "move", 0, 6, 1, 0, 0);
    x.refuses(Due.BEYOND, "move", 0, 0, 1, 6, 0);
    x.refuses(Due.BEYOND, "move", 0, -1, 1, 0, 0);
    x.refuses(Due.BEYOND, "move", 0, 0, 1, -1, 0);
    Doors empty = one(8, 0);
    empty.takes(0, "move", 0, 0, 0, 0, 0);
    empty.refuses(Due.BEYOND, "move", 0, 0, 0, 0, 1);
    empty.refuses(Due.BEYOND, "move", 0, 1, 0, 0, 0);
  }

  private static void farBeyond() {
    Due.sentence("BEYOND: n, i, or j is below 0, or they don't stand there.");
    Doors x = rows(32, 5);
    int[] far = {MIN, MIN + 1, -6, MAX - 1, MAX};
    for (int v : far) {
      x.refuses(Due.BEYOND, "move", 0, v, 1, 0, 1);
      x.refuses(Due.BEYOND, "move", 0, 0, 1, v, 1);
      x.refuses(Due.BEYOND, "move", 0, 0, 1, 0, v);
      x.refuses(Due.BEYOND, "move", 0, v, 1, v, v);
      x.refuses(Due.BEYOND, "move", 0, 2, 1, 2, v);
      x.refuses(Due.BEYOND, "move", 0, v, 1, 0, 0);
      x.refuses(Due.BEYOND, "move", 0, 0, 1, v, 0);
    }
  }

  private static void move() {
    Due.sentence("BEYOND: no such SHEET. NONE: one is missing. KIND: they are of unlike bits.");
    Doors x = Whole.begun();
    x.refusesBeyond(0, 3, 0, "move", 0, 0, 0, 0, 0);
    x.refusesBeyond(0, 3, 2, "move", 0, 0, 0, 0, 0);
    x.refuses(Due.BEYOND, "move", 4, 0, 3, 0, 0);
    x.refuses(Due.BEYOND, "move", 3, 0, 4, 0, 0);
    x.refuses(Due.NONE, "move", 3, 0, 0, 0, 0);
    x.refuses(Due.NONE, "move", 0, 0, 3, 0, 0);
    x.refuses(Due.NONE, "move", 3, 0, 3, 0, 0);
    x.refuses(Due.NONE, "move", 3, -1, 0, 0, 0);
    int[][] unlike = {{0, 1}, {1, 0}, {0, 2}, {2, 0}, {1, 2}, {2, 1}};
    for (int[] u : unlike) {
      x.refuses(Due.KIND, "move", u[0], 0, u[1], 0, 0);
      x.refuses(Due.KIND, "move", u[0], 0, u[1], 0, 1);
      x.refuses(Due.KIND, "move", u[0], -1, u[1], -1, MAX);
    }
    x.takes(6, "move", 0, 0, 0, 0, 6);
  }

  /** A sheet of threes, the second of which is as told; the others are right. */
  private static Doors threes(int km, int house, int cu) {
    Doors x = one(32, 9);
    int[] numbers = {69, 5, 93, km, house, cu, 0, 0, 0};
    for (int i = 0; i < numbers.length; i++) {
      x.put(0, i, numbers[i]);
    }
    return x;
  }

  private static void upToTheFirstRefused() {
    Due.sentence("threes (km, HOUSE, cu), from number 0 on, up to the first that knife() would refuse, or that isn't whole (no ERROR then):"
        + " how many came.");
    int[][] taken = {{0, 0, 0}, {69, 0, 0}, {0, 5, 0}, {0, 0, 93}, {0, 0, 3}, {0, 0, 90}};
    for (int[] t : taken) {
      Doors x = threes(t[0], t[1], t[2]).takes(3, "knives", 0);
      x.tells(t[0] / 10, "ofKnife", 1, 0);
      x.tells(t[0] % 10, "ofKnife", 1, 1);
      x.tells(t[1], "ofKnife", 1, 2);
      x.tells(t[2] / 10, "ofKnife", 1, 6);
      x.tells(t[2] % 10, "ofKnife", 1, 7);
      x.tells(3, "count", 1);
    }
    int[][] refused = {
      {-1, 0, 0}, {70, 0, 0}, {MIN, 0, 0}, {MAX, 0, 0}, {0, -1, 0}, {0, 6, 0}, {0, MIN, 0}, {0, MAX, 0},
      {0, 0, -1}, {0, 0, 4}, {0, 0, 9}, {0, 0, 94}, {0, 0, 99}, {0, 0, 100}, {0, 0, MIN}, {0, 0, MAX}};
    for (int[] r : refused) {
      Doors x = threes(r[0], r[1], r[2]).takes(1, "knives", 0);
      x.tells(1, "count", 1);
      x.tells(6, "ofKnife", 0, 0);
      for (int k = 1; k <= 5; k++) {
        x.tells(0, "told", k);
      }
    }
    // the first is the one
    Doors none = threes(0, 0, 0);
    none.put(0, 0, 70);
    none.takes(0, "knives", 0).tells(0, "count", 1);
  }

  private static void upToFull() {
    Due.sentence("up to the first that knife() would refuse");
    for (int had = 0; had <= 8; had++) {
      Doors x = one(8, 40);
      for (int i = 0; i < had; i++) {
        x.knife(14, 1, 31);
      }
      Doors y = x.takes(8 - had, "knives", 0);
      y.tells(8, "count", 1);
      y.tells(had == 8 ? 1 : 0, "ofKnife", 7, 0);
      y.tells(0, "told", 4);
      y.takes(0, "knives", 0);
    }
  }

  private static void notWhole() {
    Due.sentence("or that isn't whole (no ERROR then): how many came.");
    for (int bits : BITS) {
      for (int n = 0; n <= 24; n++) {
        Doors x = one(bits, n).takes(n / 3, "knives", 0);
        x.tells(n / 3, "count", 1);
        x.tells(0, "told", 1);
      }
    }
  }

  private static void knives() {
    Due.sentence("BEYOND: no such SHEET. NONE: it is missing.");
    Doors x = Whole.begun();
    x.refusesBeyond(0, 3, 0, "knives", 0);
    x.refuses(Due.NONE, "knives", 3);
    x.takes(2, "knives", 0).tells(5, "count", 1);
    x.takes(3, "knives", 1).tells(6, "count", 1);
    x.takes(1, "knives", 2).tells(4, "count", 1);
    new Doors().refuses(Due.NONE, "knives", 0);
  }
}
