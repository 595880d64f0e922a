/** Promises 13 to 15: visits, days, loose days. */
final class DaysTest {
  public static void main(String[] args) {
    visit();
    neighbours();
    visitNames();
    visitGrinds();
    purse();
    days();
    order();
    lastDay();
    loose();
    Due.end();
  }

  private static void visit() {
    Doors x = new Doors();
    Due.due("P13 no knives", x.visit(), 0);
    x.knife(0, 0, 0);
    x.change(0, 3, 49);
    Due.due("P13 brings gives 0", x.visit(), 0);
    x.change(0, 3, 48);
    Due.due("P13 brings gives 1", x.visit(), 1);
    Due.due("P13 ground", x.ofKnife(0, 8), 1);
    Due.due("P13 purse", x.count(2), 4);
    x.change(0, 3, 0);
    x.become(0, 60);
    Due.due("P13 worn", x.visit(), 0);
    Due.due("P13 ground", x.ofKnife(0, 8), 1);
    Due.due("P13 no day goes by", x.count(0), 0);
  }

  private static void neighbours() {
    Doors x = new Doors();
    x.knife(0, 2, 0);
    x.knife(0, 3, 0);
    x.knife(0, 4, 0);
    x.knife(0, 2, 0);
    x.knife(0, 0, 0);
    x.knife(0, 5, 0);
    x.set(0, 0);
    x.set(1, 0);
    x.set(2, 0);
    x.set(3, 0);
    Due.law(x, 1, "n");
    Due.due("P13 none begins", x.visit(), 0);
    Due.law(x, 1, "n+(h=2)");
    // house 2 begins; 3 has a neighbour; 4 has one; 2 again by itself; 0 has none; 5 has one.
    Due.due("P13 by neighbours", x.visit(), 5);
    Due.due("P13 house 0", x.ofKnife(4, 8), 0);
    Due.due("P13 house 5", x.ofKnife(5, 8), 1);
    Due.due("P13 forgotten by the next visit", x.visit(), 5);
    Due.law(x, 1, "(h=2|h=4)&!n|n=2");
    // 2; not 3 (n 1); 4; then 2 once more; house 0 and 5: n 0 or 1
    Due.due("P13 how many neighbours", x.visit(), 3);
    x.change(1, 2, 4);
    x.change(2, 2, 3);
    // 2; 4; 3 has two neighbours; then 2 has one
    Due.due("P13 two neighbours", x.visit(), 3);
    Due.due("P13 two neighbours", x.ofKnife(2, 8), 4);
    x.change(0, 2, 2);
    x.change(1, 2, 2);
    x.change(2, 2, 2);
    Due.law(x, 1, "!n");
    Due.due("P13 a house is not next door to itself", x.visit(), 6);
    Due.law(x, 1, "h=5|n");
    x.change(4, 2, 5);
    x.change(5, 2, 0);
    Due.due("P13 the row is no ring", x.visit(), 1);
  }

  private static void visitNames() {
    Doors x = new Doors();
    x.knife(0, 3, 0);
    x.change(0, 3, 90);
    x.set(5, 13);
    Due.law(x, 1, "b=9&p=13&h=3&n=0");
    Due.due("P13 names", x.visit(), 1);
    Due.law(x, 1, "0-1");
    Due.due("P13 below 0", x.visit(), 0);
    Due.due("P13 purse", x.count(2), 13);
  }

  private static void visitGrinds() {
    Doors x = new Doors();
    x.knife(14, 3, 0);
    x.change(0, 3, 0);
    x.visit();
    Due.due("P13 sharp", x.ofKnife(0, 3), 20);
    Due.due("P13 steel", x.ofKnife(0, 4), 194);
    Due.due("P13 heat", x.ofKnife(0, 5), 8);
    x.change(0, 3, 0);
    x.set(0, 6);
    x.set(1, 3);
    x.set(2, 2);
    x.set(3, 4);
    x.visit();
    Due.due("P13 in order", x.ofKnife(0, 3), 40 + 18 + 8 + 8);
    Due.due("P13 steel", x.ofKnife(0, 4), 194 - 18 - 6 - 2);
    Due.due("P13 heat carried", x.ofKnife(0, 5), 8 + 30 + 9 + 2 - 4);
    x.change(0, 3, 0);
    x.visit();
    Due.due("P13 on when burnt", x.ofKnife(0, 0), 4);
    Due.due("P13 on when burnt", x.ofKnife(0, 3), 24 + 12 + 9 + 4 + 4);
    Due.due("P13 heat since", x.ofKnife(0, 5), 15 + 9 + 2 - 4);
    x.change(0, 3, 0);
    x.change(0, 4, 5);
    x.change(0, 5, 0);
    x.visit();
    Due.due("P13 on when worn", x.ofKnife(0, 0), 6);
    Due.due("P13 on when worn", x.ofKnife(0, 3), 8 + 4 + 3 + 2 + 4);
    Due.due("P13 ground", x.ofKnife(0, 8), 4);
    Due.due("P13 heat when worn", x.ofKnife(0, 5), 30 + 9 + 2 - 4);
  }

  private static void purse() {
    Doors x = new Doors();
    x.knife(0, 0, 0);
    for (int i = 0; i < 4; i++) {
      x.set(i, 0);
    }
    for (int i = 0; i < 7; i++) {
      x.knife(0, 0, 0);
    }
    x.set(5, 20);
    x.set(6, 1);
    Due.law(x, 1, "1");
    x.visit();
    Due.due("P13 all pay", x.count(2), 160);
    x.set(5, 0);
    x.visit();
    Due.due("P13 for nothing", x.count(2), 160);
    Due.due("P13 ground of all", x.count(4), 16);
  }

  private static void days() {
    Doors x = new Doors();
    x.knife(0, 0, 12);
    x.knife(10, 5, 93);
    x.change(0, 5, 9);
    Due.due("P14 n 0", x.days(0), Due.BEYOND);
    Due.due("P14 n -1", x.days(-1), Due.BEYOND);
    Due.due("P14 n 401", x.days(401), Due.BEYOND);
    Due.due("P14 heat stays", x.ofKnife(0, 5), 9);
    Due.due("P14 a day", x.days(1), 0);
    Due.due("P14 day", x.count(0), 1);
    Due.due("P14 sharp", x.ofKnife(0, 3), 57);
    Due.due("P14 sharp 0", x.ofKnife(1, 3), 0);
    Due.due("P14 heat 0", x.ofKnife(0, 5), 0);
    Due.due("P14 up to the visit", x.days(20), 0);
    Due.due("P14 ahead of the visit", x.ofKnife(1, 8), 0);
    Due.due("P14 the visit", x.days(1), 8);
    Due.due("P14 the visit", x.ofKnife(1, 8), 1);
    Due.due("P14 heat 0 behind a visit", x.ofKnife(1, 5), 0);
    x.set(6, 1);
    Due.due("P14 day 27", x.days(6), 8);
    Due.due("P14 day 28", x.days(1), 16);
    x.set(6, 12);
    Due.due("P14 to day 84", x.days(55), 16);
    Due.due("P14 day 84", x.days(1), 24);
    Due.due("P14 day", x.count(0), 85);
    Due.due("P14 told", x.told(1), 3);
    Due.due("P14 z stays", x.count(8), 1);
  }

  private static void order() {
    Doors x = new Doors();
    x.knife(0, 0, 50);
    x.change(0, 3, 40);
    x.days(1);
    Due.due("P14 a visit on day 0, then cuts", x.ofKnife(0, 3), 40 + 6 + 4 + 2 - 5);
    Due.due("P14 a visit on day 0, then cuts", x.ofKnife(0, 8), 1);
    Doors y = new Doors();
    y.knife(30, 0, 90);
    y.change(0, 3, 23);
    y.set(6, 12);
    Due.law(y, 1, "0");
    y.days(1);
    Due.due("P14 as it is ahead of the cuts", y.ofKnife(0, 3), 14);
    y.days(1);
    Due.due("P14 blunt below 20", y.ofKnife(0, 3), 14);
    Due.law(y, 0, "(s=14)*2");
    y.days(1);
    Due.due("P14 by the text", y.ofKnife(0, 3), 0);
  }

  private static void lastDay() {
    Doors x = new Doors();
    x.knife(0, 0, 0);
    Due.law(x, 1, "1");
    x.set(5, 20);
    x.set(6, 1);
    for (int i = 0; i < 24; i++) {
      x.days(400);
    }
    Due.due("P14 day", x.count(0), 9600);
    Due.due("P14 beyond day 9999", x.days(400), Due.STATE);
    Due.due("P15 beyond day 9999", x.loose(400), Due.STATE);
    Due.due("P14 beyond ahead of state", x.days(401), Due.BEYOND);
    Due.due("P15 beyond ahead of state", x.loose(401), Due.BEYOND);
    Due.due("P14 day", x.count(0), 9600);
    Due.due("P14 z", x.count(8), 1);
    int purse = x.count(2);
    Due.due("P14 worn by then", purse, 20 * 34);
    Due.due("P14 the last day", x.days(399), purse);
    Due.due("P14 day", x.count(0), 9999);
    Due.due("P14 no more", x.days(1), Due.STATE);
    Due.due("P15 no more", x.loose(1), Due.STATE);
    Due.due("P16 ahead is beyond it", x.then(400, 0, 3) >= 0 ? 1 : 0, 1);
    Due.due("P14 told", x.told(3), 4);
  }

  private static void loose() {
    Doors x = new Doors();
    x.knife(0, 0, 10);
    x.knife(0, 2, 20);
    x.knife(0, 4, 10);
    x.set(6, 12);
    Due.law(x, 1, "0");
    Due.due("P15 n 0", x.loose(0), Due.BEYOND);
    Due.due("P15 n 401", x.loose(401), Due.BEYOND);
    x.seed(8);
    int z = 8;
    int[] sharp = {60, 60, 60};
    int[] cuts = {1, 2, 1};
    int twice = 0;
    for (int day = 0; day < 20; day++) {
      Due.due("P15 loose", x.loose(1), 0);
      for (int i = 0; i < 3; i++) {
        z = z * 1103515245 + 12345;
        boolean isTwice = (z >>> 8) % 4 == 0;
        if (isTwice) twice++;
        sharp[i] = Math.max(0, sharp[i] - cuts[i] * (isTwice ? 2 : 1));
        Due.due("P15 sharp on day " + day, x.ofKnife(i, 3), sharp[i]);
      }
      Due.due("P15 z", x.count(8), z);
    }
    Due.due("P15 some are twice", twice > 5 && twice < 40 ? 1 : 0, 1);
    Due.due("P15 day", x.count(0), 20);
    Due.law(x, 1, "1");
    x.set(6, 1);
    Due.due("P15 no visit on day 20", x.loose(1), 0);
    Due.due("P15 a visit on day 21", x.loose(1), 12);
    // days 28 to 420; each knife is worn behind 34 visits
    Due.due("P15 four hundred", x.loose(400), 34 * 12);
    Due.due("P15 day", x.count(0), 422);
  }
}
