/** Promises 24 to 26: draws, voices, the trace. */
final class VoicesTest {
  public static void main(String[] args) {
    seed();
    voices();
    errors();
    Due.end();
  }

  private static void seed() {
    Doors x = new Doors();
    Due.due("P24 first", x.seed(Integer.MIN_VALUE), 1);
    Due.due("P24 any number", x.seed(Due.BEYOND), Integer.MIN_VALUE);
    Due.due("P24 any number", x.seed(7), Due.BEYOND);
    Due.due("P24 no error", x.told(1), 0);
    Due.due("P24 z", x.count(8), 7);
  }

  /** What knife 3 of m 5 says by x, and by which bodies. */
  private static void says(int kind, int act, int x, int due, int... bodies) {
    Doors doors = new Doors();
    for (int i = 0; i < 5; i++) {
      doors.knife(12, 0, 0);
    }
    doors.become(3, 10 * kind + 5);
    doors.voice(4, 3, 1);
    String call = "P25 kind " + kind + ", act " + act + ", x " + x;
    Due.due(call, doors.voice(3, act, x), due);
    Due.due(call + ", bodies", doors.count(7), bodies.length);
    for (int i = 0; i < bodies.length; i++) {
      Due.due("P26 kind " + kind + ", act " + act + ", trace(" + i + ")", doors.trace(i), bodies[i]);
    }
    Due.due("P26 behind the last", doors.trace(bodies.length), Due.NONE);
  }

  private static void voices() {
    says(0, 0, 10, 13, 10);
    says(0, 1, 10, 26, 11, 10);
    says(0, 2, 10, 5, 12);
    says(0, 3, 10, 26 ^ 5, 13, 11, 10, 12);
    says(1, 0, 10, 13, 10);
    says(1, 1, 10, 26 - (1 - 5), 20, 11, 10, 12);
    says(1, 2, 10, 5, 12);
    says(1, 3, 10, 30 ^ 5, 13, 20, 11, 10, 12, 12);
    says(2, 0, 10, 39, 30, 10);
    says(2, 1, 10, 78, 11, 30, 10);
    says(2, 2, 10, 5, 12);
    says(2, 3, 10, 78 ^ 5, 13, 11, 30, 10, 12);
    says(3, 0, 10, 13, 10);
    says(3, 1, 10, 26, 11, 10);
    says(3, 2, 10, -5, 40, 12);
    says(3, 3, 10, 26 ^ -5, 13, 11, 10, 40, 12);
    says(4, 0, 10, 13, 10);
    says(4, 1, 10, 28 + 4, 50, 20, 11, 10, 12);
    says(4, 2, 10, 5, 12);
    says(4, 3, 10, 32 ^ 5, 13, 50, 20, 11, 10, 12, 12);
    says(5, 0, 10, 39, 30, 10);
    says(5, 1, 10, 78, 11, 30, 10);
    says(5, 2, 10, 5, 12);
    says(5, 3, 10, (78 ^ 5) - 15, 60, 13, 11, 30, 10, 12, 30, 10);
    says(6, 0, 10, 13, 10);
    says(6, 1, 10, 26, 11, 10);
    says(6, 2, 10, -5 ^ 3, 70, 40, 12);
    says(6, 3, 10, 26 - (26 ^ (-5 ^ 3)), 71, 11, 10, 13, 11, 10, 70, 40, 12);
    says(0, 0, 2147483647, -2147483646, 10);
    says(2, 0, 1073741824, -1073741815, 30, 10);
    says(4, 1, 2147483647, (-2147483648 + 3) * 2 + 4, 50, 20, 11, 10, 12);
    says(0, 2, -1000000000, -1000000005, 12);
  }

  private static void errors() {
    Doors x = new Doors();
    x.knife(0, 0, 0);
    x.voice(0, 1, 0);
    Due.due("P25 knife -1", x.voice(-1, 0, 0), Due.BEYOND);
    Due.due("P25 knife 1", x.voice(1, 0, 0), Due.BEYOND);
    Due.due("P25 act -1", x.voice(0, -1, 0), Due.BEYOND);
    Due.due("P25 act 4", x.voice(0, 4, 0), Due.BEYOND);
    Due.due("P26 the trace stays", x.trace(0), 11);
    Due.due("P26 the trace stays", x.trace(1), 10);
    Due.due("P26 trace(2)", x.trace(2), Due.NONE);
    Due.due("P26 trace(-1)", x.trace(-1), Due.NONE);
    Due.due("P26 trace(40)", x.trace(40), Due.NONE);
    Due.due("P26 told", x.told(2), 3);
    Due.due("P25 told", x.told(1), 4);
    Due.due("P25 any number", x.voice(0, 0, Due.KIND), Due.KIND);
    Due.due("P25 told", x.told(5), 0);
  }
}
