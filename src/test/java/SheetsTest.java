/** Promises 27 to 30: sheets, and knives from them. */
final class SheetsTest {
  public static void main(String[] args) {
    sheet();
    put();
    move();
    moveErrors();
    knives();
    Due.end();
  }

  private static void sheet() {
    Doors x = new Doors();
    int[] unlike = {-8, -1, 1, 7, 9, 24, 33, 64};
    for (int bits : unlike) {
      Due.due("P27 bits " + bits, x.sheet(0, bits, 1), Due.BEYOND);
    }
    Due.due("P27 sheet -1", x.sheet(-1, 8, 1), Due.BEYOND);
    Due.due("P27 sheet 4", x.sheet(4, 8, 1), Due.BEYOND);
    Due.due("P27 n -1", x.sheet(0, 8, -1), Due.STATE);
    Due.due("P27 n 41", x.sheet(0, 8, 41), Due.BEYOND);
    Due.due("P27 the sheet ahead of n", x.sheet(4, 8, -1), Due.BEYOND);
    Due.due("P27 bits ahead of n", x.sheet(0, 9, -1), Due.BEYOND);
    Due.due("P27 still missing", x.put(0, 0, 0), Due.NONE);
    Due.due("P27 none", x.sheet(0, 8, 0), 1);
    Due.due("P27 there, but empty", x.put(0, 0, 0), Due.BEYOND);
    Due.due("P27 forty", x.sheet(3, 32, 40), 1);
    Due.due("P27 the last", x.put(3, 39, 1), 1);
    Due.due("P27 behind it", x.put(3, 40, 1), Due.BEYOND);
    Due.due("P27 all 0 again", x.sheet(3, 16, 40), 1);
    Due.due("P27 all 0 again", x.knives(3), 8);
    x = new Doors();
    x.sheet(1, 8, 6);
    x.put(1, 0, 99);
    Due.due("P27 not 0", x.knives(1), 0);
    Due.due("P27 n -1 changes nothing", x.sheet(1, 8, -1), Due.STATE);
    Due.due("P27 n 41 changes nothing", x.sheet(1, 8, 41), Due.BEYOND);
    Due.due("P27 not 0", x.knives(1), 0);
    Due.due("P27 0 again", x.sheet(1, 8, 6), 1);
    Due.due("P27 0 again", x.knives(1), 2);
    Due.due("P27 missing, n -1", x.sheet(1, 0, -1), 1);
    Due.due("P27 missing", x.knives(1), Due.NONE);
    Due.due("P27 missing, n 41", x.sheet(1, 0, 41), 1);
    Due.due("P27 missing", x.put(1, 0, 0), Due.NONE);
  }

  private static void put() {
    Doors x = new Doors();
    x.sheet(0, 8, 3);
    x.sheet(1, 16, 3);
    x.sheet(2, 32, 3);
    Due.due("P28 sheet -1", x.put(-1, 0, 0), Due.BEYOND);
    Due.due("P28 sheet 4", x.put(4, 0, 0), Due.BEYOND);
    Due.due("P28 missing", x.put(3, -1, 0), Due.NONE);
    Due.due("P28 number -1", x.put(0, -1, 0), Due.BEYOND);
    Due.due("P28 number 3", x.put(0, 3, 0), Due.BEYOND);
    Due.due("P28 8 bits", x.put(0, 0, 0x123456ff & ~0xff | 45), 1);
    Due.due("P28 8 bits", x.put(0, 1, 256 + 3), 1);
    Due.due("P28 8 bits", x.put(0, 2, -256 + 31), 1);
    Due.due("P28 16 bits", x.put(1, 0, (1 << 16) + 56), 1);
    Due.due("P28 16 bits", x.put(1, 1, (1 << 20) + 4), 1);
    Due.due("P28 16 bits", x.put(1, 2, -(1 << 16) + 42), 1);
    Due.due("P28 32 bits", x.put(2, 0, 67), 1);
    Due.due("P28 32 bits", x.put(2, 1, 5), 1);
    Due.due("P28 32 bits", x.put(2, 2, 53), 1);
    for (int sheet = 0; sheet < 3; sheet++) {
      Due.due("P28 knives(" + sheet + ")", x.knives(sheet), 1);
      Due.due("P28 kind", x.ofKnife(sheet, 0), 4 + sheet);
      Due.due("P28 m", x.ofKnife(sheet, 1), 5 + sheet);
      Due.due("P28 house", x.ofKnife(sheet, 2), 3 + sheet);
      Due.due("P28 cuts", x.ofKnife(sheet, 6), 3 + sheet);
      Due.due("P28 use", x.ofKnife(sheet, 7), 1 + sheet);
    }
    x.put(1, 0, 256);
    Due.due("P28 16 bits hold 256", x.knives(1), 0);
    x.put(2, 0, 1 << 16);
    Due.due("P28 32 bits hold 65536", x.knives(2), 0);
    x.put(0, 0, 255);
    Due.due("P28 8 bits hold 255", x.knives(0), 0);
  }

  /** The numbers 0, 1, .. of a sheet are km of knives to come; the rest of each three is 0. */
  private static void reads(String call, Doors x, int sheet, int... km) {
    x.sheet(3, 32, 24);
    x.image();
    x.sheet(2, 32, 1);
    for (int i = 0; i < km.length && i < 8; i++) {
      Due.due(call, x.move(sheet, i, 3, 3 * i, 1), 1);
    }
    int had = x.count(1);
    Due.due(call, x.knives(3), 8 - had);
    for (int i = 0; i < km.length && i < 8 - had; i++) {
      Due.due(call + ", number " + i, 10 * x.ofKnife(had + i, 0) + x.ofKnife(had + i, 1), km[i]);
    }
    x.restore();
  }

  private static void move() {
    Doors x = new Doors();
    x.sheet(0, 32, 7);
    x.sheet(1, 32, 4);
    for (int i = 0; i < 7; i++) {
      x.put(0, i, i + 1);
    }
    reads("P29 as put", x, 0, 1, 2, 3, 4, 5, 6, 7);
    Due.due("P29 to another", x.move(0, 3, 1, 1, 3), 3);
    reads("P29 to another", x, 1, 0, 4, 5, 6);
    Due.due("P29 up", x.move(0, 0, 0, 2, 5), 5);
    reads("P29 up", x, 0, 1, 2, 1, 2, 3, 4, 5);
    Due.due("P29 down", x.move(0, 2, 0, 1, 5), 5);
    reads("P29 down", x, 0, 1, 1, 2, 3, 4, 5, 5);
    Due.due("P29 none", x.move(0, 7, 1, 4, 0), 0);
    Due.due("P29 all of them", x.move(1, 0, 0, 3, 4), 4);
    reads("P29 all of them", x, 0, 1, 1, 2, 0, 4, 5, 6);
    reads("P29 they stay", x, 1, 0, 4, 5, 6);
  }

  private static void moveErrors() {
    Doors x = new Doors();
    x.sheet(0, 8, 5);
    x.sheet(1, 8, 3);
    x.sheet(2, 16, 3);
    Due.due("P29 sheet -1", x.move(-1, 0, 0, 0, 1), Due.BEYOND);
    Due.due("P29 sheet 4", x.move(4, 0, 0, 0, 1), Due.BEYOND);
    Due.due("P29 other -1", x.move(0, 0, -1, 0, 1), Due.BEYOND);
    Due.due("P29 other 4", x.move(0, 0, 4, 0, 1), Due.BEYOND);
    Due.due("P29 beyond ahead of none", x.move(3, 0, 4, 0, 1), Due.BEYOND);
    Due.due("P29 missing", x.move(3, 0, 0, 0, 1), Due.NONE);
    Due.due("P29 other missing", x.move(0, 0, 3, 0, 1), Due.NONE);
    Due.due("P29 none ahead of beyond", x.move(0, 0, 3, 0, -1), Due.NONE);
    Due.due("P29 both missing", x.move(3, 0, 3, 0, 1), Due.NONE);
    Due.due("P29 unlike", x.move(0, 0, 2, 0, 1), Due.KIND);
    Due.due("P29 unlike", x.move(2, 0, 1, 0, 1), Due.KIND);
    Due.due("P29 kind ahead of beyond", x.move(0, 0, 2, 0, 9), Due.KIND);
    Due.due("P29 unlike, none", x.move(0, 0, 2, 0, 0), Due.KIND);
    int most = Integer.MAX_VALUE;
    int[][] wrong = {
      {0, 0, -1}, {-1, 0, 1}, {0, -1, 1}, {3, 0, 3}, {0, 1, 3}, {0, 0, 4}, {0, 0, 6}, {5, 0, 1}, {0, 3, 1}, {6, 0, 0},
      {0, 4, 0}, {-1, 0, 0}, {0, -1, 0}, {most, 0, 1}, {0, most, 1}, {1, 1, most}, {most, most, most},
      {most, 0, 0}, {Integer.MIN_VALUE, 0, 1}, {0, 0, Integer.MIN_VALUE}, {2, 2, Integer.MIN_VALUE}};
    for (int[] w : wrong) {
      Due.due("P29 move(0, " + w[0] + ", 1, " + w[1] + ", " + w[2] + ")", x.move(0, w[0], 1, w[1], w[2]), Due.BEYOND);
    }
    Due.due("P29 just there", x.move(0, 2, 1, 0, 3), 3);
    Due.due("P29 just there", x.move(0, 5, 1, 3, 0), 0);
    Due.due("P29 told", x.told(5), 4);
  }

  private static void knives() {
    Doors x = new Doors();
    x.sheet(0, 8, 40);
    Due.due("P30 sheet -1", x.knives(-1), Due.BEYOND);
    Due.due("P30 sheet 4", x.knives(4), Due.BEYOND);
    Due.due("P30 missing", x.knives(1), Due.NONE);
    for (int i = 0; i < 4; i++) {
      x.put(0, 3 * i, 10 * i + 9);
      x.put(0, 3 * i + 1, i);
      x.put(0, 3 * i + 2, 20 * i + i);
    }
    x.put(0, 12, 70);
    Due.due("P30 up to a km", x.knives(0), 4);
    Due.due("P30 knives", x.count(1), 4);
    for (int i = 0; i < 4; i++) {
      int[] made = {i, 9, i, 60, 200, 0, 2 * i, i, 0};
      for (int what = 0; what < made.length; what++) {
        Due.due("P30 ofKnife(" + i + ", " + what + ")", x.ofKnife(i, what), made[what]);
      }
    }
    x.put(0, 4, 6);
    Due.due("P30 up to a house", x.knives(0), 1);
    x.put(0, 2, 4);
    Due.due("P30 up to a cu", x.knives(0), 0);
    x.put(0, 2, 3);
    x.put(0, 4, 0);
    Due.due("P30 up to full", x.knives(0), 3);
    Due.due("P30 full", x.knives(0), 0);
    Due.due("P30 no errors", x.told(1), 2);
    Due.due("P30 no errors", x.told(4), 0);
    Due.due("P30 full", x.knife(0, 0, 0), Due.FULL);
    for (int n = 0; n < 9; n++) {
      Doors y = new Doors();
      y.sheet(2, 16, n);
      Due.due("P30 not whole, n " + n, y.knives(2), n / 3);
    }
  }
}
