/** The sentences about errors, and about how long an object is used. */
final class EdgesOfErrorsTest {
  public static void main(String[] args) {
    lastCall();
    numbers();
    order();
    orderOfSheets();
    changesNothing();
    changesNothingWhenFull();
    changesNothingWhenEmpty();
    quotients();
    Due.end();
  }

  private static void lastCall() {
    Due.sentence("An object is used for at most 512 calls after it has been made; what later calls answer is free.");
    Doors images = new Doors();
    for (int i = 1; i <= 512; i++) {
      Due.due("image() as call " + i, images.image(), i);
    }
    Doors errors = new Doors();
    for (int i = 1; i <= 511; i++) {
      Due.due("restore() as call " + i, errors.restore(), Due.NONE);
    }
    Due.due("told(2) as call 512", errors.told(2), 511);
    Doors turns = new Doors();
    turns.knife(0, 0, 0);
    turns.set(4, 9);
    for (int i = 3; i <= 511; i++) {
      turns.turn(0, 3, 1);
    }
    Due.due("turn() as call 512", turns.turn(0, 3, 1), 99);
    Doors visits = new Doors();
    visits.knife(0, 0, 0);
    Due.law(visits, 1, "1");
    visits.set(0, 0);
    visits.set(1, 0);
    visits.set(2, 0);
    int done = 0;
    while (visits.calls() < 510) {
      Due.due("visit()", visits.visit(), 1);
      done++;
    }
    Due.due("ofKnife(0, 8) as call 511", visits.ofKnife(0, 8), done);
    Due.due("count(2) as call 512", visits.count(2), 4 * done);
  }

  private static void numbers() {
    Due.sentence("LOW is -1000000000; LOW - 1 BEYOND, LOW - 2 NONE, LOW - 3 STATE, LOW - 4 FULL, LOW - 5 KIND.");
    Doors x = Whole.full();
    x.takes(-1000000001, "count", 9);
    x.takes(-1000000002, "put", 3, 0, 0);
    x.takes(-1000000003, "days", 1);
    x.takes(-1000000004, "tell", 0);
    x.takes(-1000000005, "as", 0, 2);
    Due.sentence("ERRORS are answers below -1000000000");
    Doors y = new Doors();
    y.knife(0, 0, 0);
    // answers that are just LOW, or as an ERROR would be, but are any numbers: none is counted
    int[] any = {-1000000000, -1000000001, -1000000005, -1000000006, Integer.MIN_VALUE};
    for (int v : any) {
      Due.due("voice(0, 0, " + v + ")", y.voice(0, 0, v), v);
      y.seed(v);
      Due.due("seed(0)", y.seed(0), v);
    }
    for (int k = 1; k <= 5; k++) {
      Due.due("told(" + k + ")", y.told(k), 0);
    }
  }

  private static void order() {
    Due.sentence("Each act tells its ERRORS in the order in which they are asked");
    Doors x = Whole.full();
    x.refuses(Due.BEYOND, "knife", 70, 0, 0);
    x.refuses(Due.BEYOND, "knife", 0, 6, 0);
    x.refuses(Due.BEYOND, "knife", 0, 0, 94);
    x.refuses(Due.FULL, "knife", 69, 5, 93);
    x.refuses(Due.BEYOND, "as", 8, 4);
    x.refuses(Due.BEYOND, "as", 0, 7);
    x.refuses(Due.KIND, "as", 0, 2);
    x.refuses(Due.BEYOND, "feed", 49, 9);
    x.refuses(Due.BEYOND, "feed", 49, 0);
    x.refuses(Due.FULL, "feed", 49, 1);
    x.refuses(Due.BEYOND, "days", 0);
    x.refuses(Due.BEYOND, "days", 401);
    x.refuses(Due.STATE, "days", 400);
    x.refuses(Due.BEYOND, "loose", 0);
    x.refuses(Due.BEYOND, "loose", 401);
    x.refuses(Due.STATE, "loose", 400);
    Doors y = Whole.begun();
    y.refuses(Due.BEYOND, "still", 3, 0);
    y.refuses(Due.BEYOND, "still", 0, -1);
    y.refuses(Due.BEYOND, "still", 0, 401);
    y.refuses(Due.NONE, "still", 0, 0);
    y.refuses(Due.BEYOND, "least", 3, 99, 0);
    y.refuses(Due.BEYOND, "least", 0, 99, 4);
    y.refuses(Due.NONE, "least", 0, 99, 3);
    y.refuses(Due.BEYOND, "hand", 3, 0, 0, 0);
    y.refuses(Due.BEYOND, "hand", 0, 0, 0, 4);
    y.refuses(Due.NONE, "hand", 0, 0, 0, 3);
    y.refuses(Due.BEYOND, "voice", 3, 4, 0);
  }

  private static void orderOfSheets() {
    Due.sentence("Each act tells its ERRORS in the order in which they are asked");
    Doors x = Whole.begun();
    x.refuses(Due.BEYOND, "sheet", 4, 8, -1);
    x.refuses(Due.BEYOND, "sheet", 0, 9, -1);
    x.refuses(Due.STATE, "sheet", 0, 8, -1);
    x.refuses(Due.BEYOND, "sheet", 0, 8, 41);
    x.refuses(Due.BEYOND, "put", 4, 0, 0);
    x.refuses(Due.NONE, "put", 3, -1, 0);
    x.refuses(Due.BEYOND, "put", 0, -1, 0);
    x.refuses(Due.BEYOND, "move", 3, 0, 4, 0, 1);
    x.refuses(Due.BEYOND, "move", -1, 0, 3, 0, 1);
    x.refuses(Due.NONE, "move", 3, -1, 0, -1, -1);
    x.refuses(Due.NONE, "move", 0, -1, 3, -1, -1);
    x.refuses(Due.KIND, "move", 0, -1, 1, -1, -1);
    x.refuses(Due.BEYOND, "move", 0, -1, 0, -1, -1);
    x.refuses(Due.BEYOND, "knives", 4);
    x.refuses(Due.NONE, "knives", 3);
  }

  private static void changesNothing() {
    Due.sentence("one that answers an ERROR changes nothing but what told() tells");
    Doors x = Whole.begun();
    x.refuses(Due.BEYOND, "knife", 70, 0, 0);
    x.refuses(Due.BEYOND, "ofKnife", 3, 0);
    x.refuses(Due.BEYOND, "change", 0, 3, 100);
    x.refuses(Due.BEYOND, "become", 0, 70);
    x.refuses(Due.BEYOND, "as", 0, 7);
    x.refuses(Due.KIND, "as", 0, 2);
    x.refuses(Due.BEYOND, "gains", 0, 4);
    x.refuses(Due.BEYOND, "turn", 0, 0, 61);
    x.refuses(Due.BEYOND, "set", 6, 0);
    x.refuses(Due.BEYOND, "feed", 49, 9);
    x.refuses(Due.BEYOND, "text", 2);
    x.refuses(Due.BEYOND, "law", 2, 0, 0, 0, 0);
    x.refuses(Due.BEYOND, "days", 401);
    x.refuses(Due.BEYOND, "loose", 401);
    x.refuses(Due.BEYOND, "then", 401, 0, 0);
    x.refuses(Due.BEYOND, "thenPurse", 401);
    x.refuses(Due.BEYOND, "often", 401);
    x.refuses(Due.BEYOND, "dear", 401);
    x.refuses(Due.BEYOND, "still", 0, 401);
    x.refuses(Due.NONE, "still", 0, 226);
    x.refuses(Due.BEYOND, "least", 0, 100, 0);
    x.refuses(Due.NONE, "least", 0, 99, 0);
    x.refuses(Due.BEYOND, "line", 0, 4);
    x.refuses(Due.BEYOND, "hand", 0, 100, 0, 0);
    x.refuses(Due.NONE, "hand", 0, 0, 0, 0);
    x.refuses(Due.BEYOND, "voice", 0, 4, 0);
    x.refuses(Due.NONE, "trace", 40);
    x.refuses(Due.BEYOND, "sheet", 0, 8, 41);
    x.refuses(Due.STATE, "sheet", 0, 8, -1);
    x.refuses(Due.BEYOND, "put", 0, 6, 0);
    x.refuses(Due.NONE, "put", 3, 0, 0);
    x.refuses(Due.BEYOND, "move", 0, 0, 0, 3, 4);
    x.refuses(Due.NONE, "move", 0, 0, 3, 0, 1);
    x.refuses(Due.KIND, "move", 0, 0, 1, 0, 1);
    x.refuses(Due.BEYOND, "knives", 4);
    x.refuses(Due.NONE, "knives", 3);
    x.refuses(Due.BEYOND, "count", 9);
    x.refuses(Due.BEYOND, "told", 6);
  }

  private static void changesNothingWhenFull() {
    Due.sentence("one that answers an ERROR changes nothing but what told() tells");
    Doors x = Whole.full();
    x.refuses(Due.FULL, "knife", 0, 0, 0);
    x.refuses(Due.FULL, "feed", 49, 1);
    x.refuses(Due.FULL, "tell", 0);
    x.refuses(Due.STATE, "days", 1);
    x.refuses(Due.STATE, "loose", 1);
    x.refuses(Due.BEYOND, "then", 0, 8, 0);
  }

  private static void changesNothingWhenEmpty() {
    Due.sentence("one that answers an ERROR changes nothing but what told() tells");
    Doors x = new Doors();
    x.refuses(Due.NONE, "restore");
    x.refuses(Due.NONE, "trace", 0);
    x.refuses(Due.NONE, "put", 0, 0, 0);
    x.refuses(Due.NONE, "knives", 0);
    x.refuses(Due.NONE, "move", 0, 0, 0, 0, 0);
    x.refuses(Due.BEYOND, "check", 0);
    x.refuses(Due.BEYOND, "turn", 0, 0, 1);
    x.refuses(Due.BEYOND, "become", 0, 0);
    x.refuses(Due.BEYOND, "change", 0, 3, 0);
  }

  private static void quotients() {
    Due.sentence("Quotients are cut.");
    Doors x = new Doors();
    x.knife(50, 0, 1);
    for (int m = 0; m <= 9; m++) {
      x.become(0, 50 + m);
      Due.due("ofKnife(0, 9), nicked, m " + m, x.ofKnife(0, 9), 1 + m / 2);
    }
    Due.law(x, 1, "b/n");
    int[][] cut = {{7, 2, 3}, {-7, 2, -3}, {7, -2, -3}, {-7, -2, 3}, {1, 2, 0}, {-1, 2, 0}, {99, 100, 0}, {100, 100, 1}};
    for (int[] c : cut) {
      Due.due(c[0] + " by " + c[1], x.law(1, c[0], c[1], 0, 0), c[2]);
    }
  }
}
