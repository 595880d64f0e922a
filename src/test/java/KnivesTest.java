/** Promises 1 to 9: a new object, knives, the one who comes. */
final class KnivesTest {
  public static void main(String[] args) {
    newObject();
    knife();
    ofKnife();
    dulls();
    change();
    become();
    as();
    gains();
    turn();
    turnSpoils();
    set();
    Due.end();
  }

  private static void newObject() {
    Doors x = new Doors();
    for (int what = 0; what <= 7; what++) {
      Due.due("P1 count(" + what + ")", x.count(what), 0);
    }
    Due.due("P1 count(8)", x.count(8), 1);
    int[] first = {1, 1, 1, 1, 4, 4, 3};
    for (int what = 0; what < first.length; what++) {
      Due.due("P1 set(" + what + ")", x.set(what, 5), first[what]);
    }
    for (int k = 1; k <= 5; k++) {
      Due.due("P1 told(" + k + ")", x.told(k), 0);
    }
    Due.due("P1 law wears", x.law(0, 3, 9, 9, 9), 0);
    Due.due("P1 law brings", x.law(1, 99, 2, 4, 5), 99 + 20 - 20 - 30);
    Due.due("P1 put", x.put(0, 0, 0), Due.NONE);
    Due.due("P1 put", x.put(3, 0, 0), Due.NONE);
    Due.due("P1 trace", x.trace(0), Due.NONE);
    Due.due("P1 restore", x.restore(), Due.NONE);
    Due.due("P1 ofKnife", x.ofKnife(0, 0), Due.BEYOND);
  }

  private static void knife() {
    Doors x = new Doors();
    Due.due("P2 km -1", x.knife(-1, 0, 0), Due.BEYOND);
    Due.due("P2 km 70", x.knife(70, 0, 0), Due.BEYOND);
    Due.due("P2 house -1", x.knife(0, -1, 0), Due.BEYOND);
    Due.due("P2 house 6", x.knife(0, 6, 0), Due.BEYOND);
    Due.due("P2 cu -1", x.knife(0, 0, -1), Due.BEYOND);
    Due.due("P2 cu 4", x.knife(0, 0, 4), Due.BEYOND);
    Due.due("P2 cu 39", x.knife(0, 0, 39), Due.BEYOND);
    Due.due("P2 cu 94", x.knife(0, 0, 94), Due.BEYOND);
    Due.due("P2 cu 100", x.knife(0, 0, 100), Due.BEYOND);
    Due.due("P2 least", x.knife(0, 0, 0), 0);
    Due.due("P2 most", x.knife(69, 5, 93), 1);
    int[] made = {6, 9, 5, 60, 200, 0, 9, 3, 0, 2};
    for (int what = 0; what < made.length; what++) {
      Due.due("P2 ofKnife(1, " + what + ")", x.ofKnife(1, what), made[what]);
    }
    for (int i = 2; i < 8; i++) {
      Due.due("P2 number", x.knife(i, i % 6, 10 * i), i);
    }
    Due.due("P2 full", x.knife(0, 0, 0), Due.FULL);
    Due.due("P2 beyond ahead of full", x.knife(70, 0, 0), Due.BEYOND);
    Due.due("P2 count", x.count(1), 8);
    Due.due("P2 told beyond", x.told(1), 10);
    Due.due("P2 told full", x.told(4), 1);
    Due.due("P2 the last one", x.ofKnife(7, 6), 7);
  }

  private static void ofKnife() {
    Doors x = new Doors();
    x.knife(27, 4, 52);
    int[] made = {2, 7, 4, 60, 200, 0, 5, 2, 0, 2};
    for (int what = 0; what < made.length; what++) {
      Due.due("P3 ofKnife(0, " + what + ")", x.ofKnife(0, what), made[what]);
    }
    Due.due("P3 what -1", x.ofKnife(0, -1), Due.BEYOND);
    Due.due("P3 what 10", x.ofKnife(0, 10), Due.BEYOND);
    Due.due("P3 knife -1", x.ofKnife(-1, 0), Due.BEYOND);
    Due.due("P3 knife 1", x.ofKnife(1, 0), Due.BEYOND);
    Due.due("P3 knife 8", x.ofKnife(8, 0), Due.BEYOND);
    Due.due("P3 told", x.told(1), 5);
  }

  private static void dulls() {
    int[][] byUse = {
      {1, 2, 3, 4}, {2, 4, 6, 8}, {0, 1, 2, 3}, {1, 1, 1, 1}, {9, 11, 13, 15}, {3, 4, 5, 6}, {2, 2, 2, 2}};
    Doors x = new Doors();
    x.knife(0, 0, 0);
    for (int kind = 0; kind < 7; kind++) {
      x.become(0, 10 * kind + 7);
      for (int use = 0; use < 4; use++) {
        x.change(0, 7, use);
        Due.due("P3 dulls, kind " + kind + ", use " + use, x.ofKnife(0, 9), byUse[kind][use]);
      }
    }
    x.change(0, 3, 20);
    Due.due("P3 dulls, worn at 20", x.ofKnife(0, 9), 2);
    x.change(0, 3, 19);
    Due.due("P3 dulls, worn at 19", x.ofKnife(0, 9), 0);
    x.become(0, 30);
    Due.due("P3 dulls, blunt at 19", x.ofKnife(0, 9), 0);
    x.change(0, 3, 20);
    Due.due("P3 dulls, blunt at 20", x.ofKnife(0, 9), 1);
    Due.due("P3 text", Due.text(x, 0, "0-5"), 1);
    Due.due("P3 dulls, not below 0", x.ofKnife(0, 9), 0);
    Due.due("P3 text", Due.text(x, 0, "s+t+m+u"), 1);
    Due.due("P3 dulls, the text held", x.ofKnife(0, 9), 10);
    Due.due("P3 text", Due.text(x, 0, "(s=20)+(t=200)*2+(m=9)*4"), 1);
    Due.due("P3 dulls, the text's names", x.ofKnife(0, 9), 4);
    x.become(0, 39);
    Due.due("P3 dulls, the text's m", x.ofKnife(0, 9), 8);
    Due.due("P3 text", Due.text(x, 0, "u*2"), 1);
    Due.due("P3 dulls, the text's u", x.ofKnife(0, 9), 7);
  }

  private static void change() {
    Doors x = new Doors();
    x.knife(0, 3, 52);
    x.knife(11, 1, 41);
    int[] was = {0, 0, 3, 60, 200, 0, 5, 2};
    int[] most = {0, 0, 5, 99, 999, 99, 9, 3};
    for (int what = 2; what <= 7; what++) {
      Due.due("P4 most of " + what, x.change(0, what, most[what]), was[what]);
      Due.due("P4 too much of " + what, x.change(0, what, most[what] + 1), Due.BEYOND);
      Due.due("P4 is " + what, x.ofKnife(0, what), most[what]);
      Due.due("P4 least of " + what, x.change(0, what, 0), most[what]);
      Due.due("P4 too little of " + what, x.change(0, what, -1), Due.BEYOND);
      Due.due("P4 is " + what, x.ofKnife(0, what), 0);
    }
    int[] unwanted = {-1, 0, 1, 8, 9, 10};
    for (int what : unwanted) {
      Due.due("P4 what " + what, x.change(0, what, 0), Due.BEYOND);
    }
    Due.due("P4 knife -1", x.change(-1, 2, 0), Due.BEYOND);
    Due.due("P4 knife 2", x.change(2, 2, 0), Due.BEYOND);
    Due.due("P4 no steel does not wear", x.ofKnife(0, 0), 0);
    Due.due("P4 heat does not burn", x.change(0, 5, 99), 0);
    Due.due("P4 heat does not burn", x.ofKnife(0, 0), 0);
    int[] other = {1, 1, 1, 60, 200, 0, 4, 1, 0};
    for (int what = 0; what < other.length; what++) {
      Due.due("P4 the other one's " + what, x.ofKnife(1, what), other[what]);
    }
  }

  private static void become() {
    Doors x = new Doors();
    x.knife(35, 3, 52);
    x.change(0, 3, 31);
    Due.due("P5 become", x.become(0, 69), 3);
    Due.due("P5 kind", x.ofKnife(0, 0), 6);
    Due.due("P5 m", x.ofKnife(0, 1), 9);
    Due.due("P5 become", x.become(0, 0), 6);
    Due.due("P5 kind", x.ofKnife(0, 0), 0);
    Due.due("P5 m", x.ofKnife(0, 1), 0);
    Due.due("P5 house", x.ofKnife(0, 2), 3);
    Due.due("P5 sharp", x.ofKnife(0, 3), 31);
    Due.due("P5 km -1", x.become(0, -1), Due.BEYOND);
    Due.due("P5 km 70", x.become(0, 70), Due.BEYOND);
    Due.due("P5 knife -1", x.become(-1, 0), Due.BEYOND);
    Due.due("P5 knife 1", x.become(1, 0), Due.BEYOND);
    Due.due("P5 kind", x.ofKnife(0, 0), 0);
  }

  private static void as() {
    int[] above = {-1, 0, 0, 0, 1, 2, 3};
    Doors x = new Doors();
    x.knife(0, 0, 0);
    for (int kind = 0; kind < 7; kind++) {
      x.become(0, 10 * kind + kind + 2);
      for (int wanted = 0; wanted < 7; wanted++) {
        boolean is = wanted == kind || wanted == above[kind] || wanted == 0;
        Due.due("P6 as, " + kind + " as " + wanted, x.as(0, wanted), is ? kind + 2 : Due.KIND);
      }
    }
    Due.due("P6 kind -1", x.as(0, -1), Due.BEYOND);
    Due.due("P6 kind 7", x.as(0, 7), Due.BEYOND);
    Due.due("P6 knife -1", x.as(-1, 0), Due.BEYOND);
    Due.due("P6 knife 1", x.as(1, 0), Due.BEYOND);
    Due.due("P6 told", x.told(5), 49 - 7 - 6 - 3);
  }

  private static void gains() {
    int[][] gains = {
      {8, 6, 4, 2}, {8, 6, 4, 2}, {9, 6, 4, 2}, {7, 5, 3, 1}, {4, 3, 2, 1}, {9, 6, 0, 0}, {1, 1, 1, 1}};
    Doors x = new Doors();
    x.knife(0, 0, 0);
    for (int kind = 0; kind < 7; kind++) {
      x.become(0, 10 * kind + 5);
      for (int stone = 0; stone < 4; stone++) {
        Due.due("P7 gains, kind " + kind + ", stone " + stone, x.gains(0, stone), gains[kind][stone]);
      }
    }
    Due.due("P7 stone -1", x.gains(0, -1), Due.BEYOND);
    Due.due("P7 stone 4", x.gains(0, 4), Due.BEYOND);
    Due.due("P7 knife -1", x.gains(-1, 0), Due.BEYOND);
    Due.due("P7 knife 1", x.gains(1, 0), Due.BEYOND);
  }

  private static void turn() {
    int[] most = {40, 60, 80, 99};
    int[] steel = {197, 198, 199, 200};
    int[] heat = {5, 3, 1, 0};
    for (int stone = 0; stone < 4; stone++) {
      Doors x = new Doors();
      x.knife(3, 0, 0);
      x.change(0, 3, 10);
      Due.due("P8 a turn on " + stone, x.turn(0, stone, 1), 10 + 8 - 2 * stone);
      Due.due("P8 steel on " + stone, x.ofKnife(0, 4), steel[stone]);
      Due.due("P8 heat on " + stone, x.ofKnife(0, 5), heat[stone]);
      x.change(0, 3, 99);
      Due.due("P8 most on " + stone, x.turn(0, stone, 1), most[stone]);
      x.change(0, 3, most[stone] - 1);
      Due.due("P8 most on " + stone, x.turn(0, stone, 1), most[stone]);
      Due.due("P8 n 0", x.turn(0, stone, 0), Due.BEYOND);
      Due.due("P8 n -1", x.turn(0, stone, -1), Due.BEYOND);
      Due.due("P8 n 61", x.turn(0, stone, 61), Due.BEYOND);
      Due.due("P8 heat then on " + stone, x.ofKnife(0, 5), 3 * heat[stone]);
      Due.due("P8 kind", x.ofKnife(0, 0), 0);
      Due.due("P8 ground", x.ofKnife(0, 8), 0);
    }
    Doors x = new Doors();
    x.knife(0, 0, 0);
    x.set(4, 9);
    x.change(0, 3, 0);
    Due.due("P8 two turns", x.turn(0, 2, 2), 8);
    Due.due("P8 steel", x.ofKnife(0, 4), 198);
    Due.due("P8 sixty turns", x.turn(0, 3, 60), 99);
    Due.due("P8 steel stays on 3", x.ofKnife(0, 4), 198);
    Due.due("P8 stone -1", x.turn(0, -1, 1), Due.BEYOND);
    Due.due("P8 stone 4", x.turn(0, 4, 1), Due.BEYOND);
    Due.due("P8 knife -1", x.turn(-1, 0, 1), Due.BEYOND);
    Due.due("P8 knife 1", x.turn(1, 0, 1), Due.BEYOND);
    Due.due("P8 sharp", x.ofKnife(0, 3), 99);
  }

  private static void turnSpoils() {
    Doors x = new Doors();
    x.knife(17, 0, 0);
    x.set(4, 0);
    x.change(0, 3, 0);
    Due.due("P8 six turns", x.turn(0, 0, 6), 40);
    Due.due("P8 heat 54", x.ofKnife(0, 5), 54);
    Due.due("P8 still keen", x.ofKnife(0, 0), 1);
    x.change(0, 3, 0);
    Due.due("P8 the burning turn gains as keen", x.turn(0, 0, 1), 8);
    Due.due("P8 burnt", x.ofKnife(0, 0), 4);
    Due.due("P8 m stays", x.ofKnife(0, 1), 7);
    Due.due("P8 heat is 0", x.ofKnife(0, 5), 0);
    Due.due("P8 then gains as burnt", x.turn(0, 0, 1), 12);
    x.become(0, 28);
    x.change(0, 5, 50);
    x.turn(0, 0, 1);
    Due.due("P8 heat 59 does not burn", x.ofKnife(0, 0), 2);
    x.change(0, 5, 51);
    x.turn(0, 0, 1);
    Due.due("P8 heat 60 burns", x.ofKnife(0, 0), 4);
    x.become(0, 29);
    x.change(0, 4, 4);
    x.turn(0, 0, 1);
    Due.due("P8 steel 1 does not wear", x.ofKnife(0, 0), 2);
    x.change(0, 5, 80);
    x.turn(0, 1, 1);
    Due.due("P8 worn rather than burnt", x.ofKnife(0, 0), 6);
    Due.due("P8 m stays worn", x.ofKnife(0, 1), 9);
    Due.due("P8 heat stays worn", x.ofKnife(0, 5), 87);
    Due.due("P8 steel not below 0", x.ofKnife(0, 4), 0);
    x.change(0, 5, 95);
    x.turn(0, 0, 1);
    Due.due("P8 heat at most 99", x.ofKnife(0, 5), 99);
    x.set(4, 9);
    x.turn(0, 3, 60);
    Due.due("P8 heat at least 0", x.ofKnife(0, 5), 0);
    x.become(0, 0);
    Due.due("P8 no steel on stone 3", x.turn(0, 3, 1), 99);
    Due.due("P8 worn on stone 3", x.ofKnife(0, 0), 6);
  }

  private static void set() {
    Doors x = new Doors();
    int[] first = {1, 1, 1, 1, 4, 4, 3};
    int[] most = {9, 9, 9, 9, 9, 20, 12};
    int[] least = {0, 0, 0, 0, 0, 0, 1};
    for (int what = 0; what < first.length; what++) {
      Due.due("P9 most of " + what, x.set(what, most[what]), first[what]);
      Due.due("P9 too much of " + what, x.set(what, most[what] + 1), Due.BEYOND);
      Due.due("P9 least of " + what, x.set(what, least[what]), most[what]);
      Due.due("P9 too little of " + what, x.set(what, least[what] - 1), Due.BEYOND);
      Due.due("P9 back " + what, x.set(what, first[what]), least[what]);
    }
    Due.due("P9 what -1", x.set(-1, 1), Due.BEYOND);
    Due.due("P9 what 7", x.set(7, 1), Due.BEYOND);
    for (int what = 0; what < first.length; what++) {
      Due.due("P9 each its own " + what, x.set(what, first[what]), first[what]);
    }
  }
}
