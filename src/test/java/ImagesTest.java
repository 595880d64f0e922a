/** Promises 31 to 36: images, what is told. */
final class ImagesTest {
  public static void main(String[] args) {
    image();
    others();
    tell();
    check();
    count();
    told();
    Due.end();
  }

  /** An object in which nothing is as at first. */
  private static Doors full() {
    Doors x = new Doors();
    x.knife(13, 1, 52);
    x.knife(24, 2, 71);
    for (int what = 0; what < 7; what++) {
      x.set(what, what + 1);
    }
    Due.law(x, 0, "s<30");
    Due.law(x, 1, "b+n>20");
    x.loose(3);
    x.change(0, 5, 33);
    x.tell(x.then(1, 0, 3));
    x.tell(77);
    Due.feed(x, "u+1");
    return x;
  }

  private static void same(String call, Doors x) {
    Doors y = full();
    Due.due(call + ", knives", x.count(1), 2);
    for (int what = 0; what <= 9; what++) {
      for (int knife = 0; knife < 2; knife++) {
        Due.due(call + ", ofKnife(" + knife + ", " + what + ")", x.ofKnife(knife, what), y.ofKnife(knife, what));
        Due.due(call + ", then(50, " + knife + ", " + what + ")", x.then(50, knife, what), y.then(50, knife, what));
      }
    }
    for (int what = 0; what <= 8; what++) {
      if (what != 7) Due.due(call + ", count(" + what + ")", x.count(what), y.count(what));
    }
    Due.due(call + ", law", x.law(0, 0, 29, 0, 0), 1);
    Due.due(call + ", law", x.law(1, 20, 1, 0, 0), 1);
    Due.due(call + ", law", x.law(1, 20, 0, 0, 0), 0);
    Due.due(call + ", what waits", x.check(0), 2);
    Due.due(call + ", the tape", x.text(0), 1);
    Due.due(call + ", the tape", x.law(0, 4, 0, 0, 0), 5);
    for (int what = 0; what < 7; what++) {
      Due.due(call + ", set(" + what + ")", x.set(what, 5), what + 1);
    }
  }

  private static void spoil(Doors x) {
    x.text(1);
    Due.law(x, 0, "9");
    Due.law(x, 1, "0");
    x.check(0);
    x.tell(1);
    Due.feed(x, "xyz");
    for (int what = 0; what < 7; what++) {
      x.set(what, 9);
    }
    x.knife(0, 0, 0);
    x.loose(40);
    x.seed(99);
    for (int knife = 0; knife < 2; knife++) {
      x.turn(knife, 0, 20);
      x.become(knife, 0);
      for (int what = 2; what < 8; what++) {
        x.change(knife, what, 0);
      }
    }
  }

  private static void image() {
    Doors x = full();
    Due.due("P32 none", x.restore(), Due.NONE);
    Due.due("P31 image", x.image(), 1);
    spoil(x);
    Due.due("P32 restore", x.restore(), 3);
    same("P32 as the image", x);
    spoil(x);
    Due.due("P32 restore once more", x.restore(), 3);
    same("P32 the image stays", x);
    Due.due("P32 restore", x.restore(), 3);
    x.change(0, 3, 7);
    Due.due("P31 in place of one ahead", x.image(), 2);
    x.change(0, 3, 9);
    x.days(30);
    Due.due("P32 restore", x.restore(), 3);
    Due.due("P32 the later one", x.ofKnife(0, 3), 7);
    Due.due("P31 how often", x.image(), 3);
    Due.due("P32 told", x.told(2), 1);
  }

  private static void others() {
    Doors x = new Doors();
    x.knife(0, 0, 0);
    x.image();
    x.sheet(0, 8, 3);
    x.voice(0, 1, 5);
    x.ofKnife(9, 9);
    x.restore();
    Due.due("P31 sheets are not kept", x.put(0, 0, 0), 1);
    Due.due("P31 nor the trace", x.trace(0), 11);
    Due.due("P31 nor the trace", x.count(7), 2);
    Due.due("P31 nor what is told", x.told(1), 1);
    Due.due("P31 nor how often", x.image(), 2);
    Due.due("P32 knives made behind an image go", x.knives(0), 1);
    x.restore();
    Due.due("P32 knives made behind an image go", x.count(1), 1);
    x.change(0, 3, 3);
    Due.due("P32 new ones are as new", x.knife(0, 0, 0), 1);
    Due.due("P32 new ones are as new", x.ofKnife(1, 3), 60);
    x.change(1, 3, 5);
    x.change(1, 4, 5);
    x.change(1, 5, 5);
    x.restore();
    x.knife(22, 3, 31);
    int[] made = {2, 2, 3, 60, 200, 0, 3, 1, 0};
    for (int what = 0; what < made.length; what++) {
      Due.due("P32 new ones are as new, " + what, x.ofKnife(1, what), made[what]);
    }
  }

  private static void tell() {
    Doors x = new Doors();
    for (int i = 1; i <= 20; i++) {
      Due.due("P33 tell", x.tell(-i), i);
    }
    Due.due("P33 full", x.tell(0), Due.FULL);
    Due.due("P33 waiting", x.count(6), 20);
    Due.due("P33 told", x.told(4), 1);
    x.check(0);
    Due.due("P33 again", x.tell(0), 1);
  }

  private static void check() {
    Doors x = new Doors();
    x.knife(0, 0, 11);
    x.knife(0, 1, 20);
    x.set(6, 1);
    x.days(5);
    Due.due("P34 none wait", x.check(0), 0);
    Due.due("P34 beyond", x.check(2), Due.BEYOND);
    for (int i = 1; i <= 20; i++) {
      x.tell(x.then(i, 1, 3));
    }
    Due.due("P34 twenty", x.check(1), 0);
    Due.due("P34 none wait then", x.count(6), 0);
    Due.due("P34 no day went by", x.count(0), 5);
    Due.law(x, 1, "0");
    for (int wrong = 0; wrong < 20; wrong++) {
      for (int i = 0; i < 20; i++) {
        x.tell(i == wrong || i == 19 ? 99 : 48 - 2 * i);
      }
      Due.due("P34 wrong at " + wrong, x.check(0), 1 + wrong);
    }
    x.tell(48);
    Due.due("P34 beyond", x.check(-1), Due.BEYOND);
    Due.due("P34 none wait then, too", x.count(6), 0);
    x.tell(48);
    Due.due("P34 beyond", x.check(2), Due.BEYOND);
    Due.due("P34 none wait then, too", x.check(0), 0);
    x.tell(48);
    x.tell(46);
    x.tell(45);
    Due.due("P34 the third", x.check(0), 3);
    Due.due("P34 told", x.told(1), 3);
  }

  private static void count() {
    Doors x = new Doors();
    x.knife(0, 0, 0);
    x.knife(0, 3, 0);
    x.change(0, 4, 150);
    x.change(0, 3, 0);
    x.change(1, 3, 0);
    x.days(2);
    x.visit();
    Due.feed(x, "abcde");
    x.tell(1);
    x.tell(2);
    x.tell(3);
    x.voice(0, 3, 1);
    x.seed(-1000000003);
    int[] due = {2, 2, 16, 150 - 12 + 200 - 12, 4, 5, 3, 4, -1000000003};
    for (int what = 0; what < due.length; what++) {
      Due.due("P35 count(" + what + ")", x.count(what), due[what]);
    }
    Due.due("P35 what -1", x.count(-1), Due.BEYOND);
    Due.due("P35 what 9", x.count(9), Due.BEYOND);
    Due.due("P35 no error", x.told(3), 0);
  }

  private static void told() {
    Doors x = new Doors();
    Due.due("P36 k 0", x.told(0), Due.BEYOND);
    Due.due("P36 k 6", x.told(6), Due.BEYOND);
    Due.due("P36 counted, too", x.told(1), 2);
    Due.due("P36 k -1", x.told(-1), Due.BEYOND);
    Due.due("P36 counted, too", x.told(1), 3);
    x.trace(0);
    x.restore();
    x.sheet(0, 8, -1);
    x.knife(0, 0, 0);
    x.as(0, 1);
    x.as(0, 2);
    x.as(0, 3);
    x.feed(0, 8);
    x.feed(0, 8);
    x.feed(0, 8);
    x.feed(0, 8);
    x.feed(0, 8);
    x.feed(0, 8);
    x.feed(0, 8);
    x.text(0);
    Due.due("P36 none", x.told(2), 2);
    Due.due("P36 state", x.told(3), 1);
    Due.due("P36 full", x.told(4), 1);
    Due.due("P36 kind", x.told(5), 3);
    Due.due("P36 beyond", x.told(1), 3);
  }
}
