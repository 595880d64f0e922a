/** Promises 10 to 12: the tape, texts, laws. */
final class TextsTest {
  public static void main(String[] args) {
    feed();
    text();
    faults();
    law();
    operators();
    Due.end();
  }

  private static void feed() {
    Doors x = new Doors();
    Due.due("P10 n 0", x.feed(49, 0), Due.BEYOND);
    Due.due("P10 n -1", x.feed(49, -1), Due.BEYOND);
    Due.due("P10 n 9", x.feed(49, 9), Due.BEYOND);
    Due.due("P10 the lowest first", x.feed('1' + ('2' << 8) + ('3' << 16), 2), 2);
    x.text(1);
    Due.due("P10 the lowest first", x.law(1, 0, 0, 0, 0), 12);
    Due.due("P10 all of a word", x.feed(0x372b362b352b342bL, 8), 8);
    Due.due("P10 how many", x.count(5), 8);
    Due.due("P10 its first byte", x.text(1), -10);
    Due.due("P10 all of a word", x.feed(0x2b372b362b352b34L, 8), 8);
    Due.due("P10 one more", x.feed(0xffffff38L, 1), 9);
    x.text(1);
    Due.due("P10 all of a word", x.law(1, 0, 0, 0, 0), 30);
    for (int i = 0; i < 6; i++) {
      Due.due("P10 more", x.feed(0, 8), 8 * i + 8);
    }
    Due.due("P10 full by one", x.feed(0, 3), Due.FULL);
    Due.due("P10 full by more", x.feed(0, 8), Due.FULL);
    Due.due("P10 beyond ahead of full", x.feed(0, 9), Due.BEYOND);
    Due.due("P10 nothing came", x.count(5), 48);
    Due.due("P10 just full", x.feed(0, 2), 50);
    Due.due("P10 full", x.feed(0, 1), Due.FULL);
    Due.due("P10 told", x.told(4), 3);
    Due.due("P10 signed bytes", x.text(0), -10);
  }

  private static void text() {
    Doors x = new Doors();
    Due.feed(x, "b+1");
    Due.due("P11 use 2", x.text(2), Due.BEYOND);
    Due.due("P11 use -1", x.text(-1), Due.BEYOND);
    Due.due("P11 the tape stays", x.count(5), 3);
    Due.due("P11 a text", x.text(1), 1);
    Due.due("P11 the tape is empty", x.count(5), 0);
    Due.due("P11 it is read", x.law(1, 7, 0, 0, 0), 8);
    Due.due("P11 wears has none", x.law(0, 7, 0, 0, 0), 0);
    Due.due("P11 a fault", Due.text(x, 1, "b+2+"), -14);
    Due.due("P11 the tape is empty", x.count(5), 0);
    Due.due("P11 the one ahead stays", x.law(1, 7, 0, 0, 0), 8);
    Due.due("P11 in place of it", Due.text(x, 1, "b"), 1);
    Due.due("P11 in place of it", x.law(1, 7, 0, 0, 0), 7);
    Due.due("P11 a fault is no error", x.told(1), 2);
    Due.due("P11 the names of wears", Due.text(x, 0, "u+s*t-m"), 1);
    Due.due("P11 the names of wears", x.law(0, 1, 2, 3, 4), 3);
    Due.due("P11 the names of brings", Due.text(x, 1, "b+n*p-h"), 1);
    Due.due("P11 the names of brings", x.law(1, 1, 2, 3, 4), 3);
    for (char name : "bnphUa".toCharArray()) {
      Due.due("P11 no name of wears " + name, Due.text(x, 0, "" + name), -10);
    }
    for (char name : "ustmB~".toCharArray()) {
      Due.due("P11 no name of brings " + name, Due.text(x, 1, "" + name), -10);
    }
  }

  private static void faults() {
    String[] texts = {
      "", "1", "9999", "10000", "0000", "00000", "1+", "+1", "1++", "1 ", " 1", "-1", "1)", ")", "()", "(", "(1", "(1)",
      "(1)1", "1(", "1!", "!", "!1", "!!!!!1", "!!!!!!1", "(((((1)))))", "((((((1", "!(!(!1))", "!(!(!(1)))", "!(!(!!",
      "!1+!1+!1+!1+!1+!1+!1", "!(1)+!(2)+((((1))))", "(1)(", "1<2", "1<2<3", "1=2=3", "1>2>3", "1<2=3", "1+1<2+2=3",
      "(1<2)<3", "1<(2<3)", "1<2&3<4", "1<2|3<4", "1<2&3<4<5", "1|2&3<4+5*6", "1|2&3<4+5*6*", "1||2", "1&&2", "1==2",
      "1%2/3*4", "1%%", "uu", "u1", "1u", "(u", "(u+", "!(u))", "(1<2", "(1<2=", "((1)", "!1!", "1$", "12345+", "1+12345",
      "!!!1+!!!1+!!(!1)", "1+2*3<4+((((((1", "!(!1)+!!!!!1", "!(!1)+!!!!!!1", "!1<!2", "!1<!2<", "!!(((1)))", "!!((((1", "(((1)+(((2)))))", "(((1)+((((2"
    };
    int[] due = {
      0, -1, -1, 4, -1, 4, 2, 0, 2, 1, 0, 0, 1, 0, 1, 1, 2, -1,
      3, 1, 1, 1, -1, -1, 5, -1, 5, -1, 5, 5,
      -1, -1, 3, -1, 3, 3, 3, 3, 7,
      -1, -1, -1, -1, 7, -1, 12, 2, 2, 2,
      -1, 2, 1, 1, 1, 2, 3, 4, 4, 4, 4, 2, 1, 4, 6,
      -1, 13, -1, 11, -1, 5, -1, 5, -1, 9
    };
    Doors x = new Doors();
    Due.due("P11 as many", texts.length, due.length);
    for (int i = 0; i < texts.length && i < due.length; i++) {
      if (i % 20 == 19) x = new Doors();
      Due.due("P11 text " + texts[i], Due.text(x, 0, texts[i]), due[i] < 0 ? 1 : -10 - due[i]);
    }
    String long50 = "1+1+1+1+1+1+1+1+1+1+1+1+1+1+1+1+1+1+1+1+1+1+1+1+10";
    x = new Doors();
    Due.due("P11 fifty bytes", Due.feed(x, long50), 50);
    Due.due("P11 fifty bytes", x.text(0), 1);
    x = new Doors();
    Due.due("P11 fifty bytes", Due.feed(x, long50.replace("10", "1+")), 50);
    Due.due("P11 fifty bytes, too early", x.text(0), -60);
    x.feed(49 + 256 * 200, 2);
    Due.due("P11 a byte above 127", x.text(0), -11);
    x.feed('u' + 256, 2);
    Due.due("P11 a byte 1", x.text(0), -11);
  }

  private static void law() {
    Doors x = new Doors();
    Due.due("P12 use 2", x.law(2, 0, 0, 0, 0), Due.BEYOND);
    Due.due("P12 use -1", x.law(-1, 0, 0, 0, 0), Due.BEYOND);
    Due.due("P12 brings, none", x.law(1, 1000, 100, 10, 1), 1000 + 1000 - 50 - 30);
    Due.due("P12 brings, none, wraps", x.law(1, 0, 1 << 30, 0, 0), 10 * (1 << 30) - 30);
    Due.due("P12 wears, none", x.law(0, 1000, 100, 10, 1), 0);
    Due.law(x, 0, "u+0");
    Due.due("P12 held above", x.law(0, 10, 0, 0, 0), 9);
    Due.due("P12 not held", x.law(0, 9, 0, 0, 0), 9);
    Due.due("P12 not held", x.law(0, -9, 0, 0, 0), -9);
    Due.due("P12 held below", x.law(0, -10, 0, 0, 0), -9);
    Due.law(x, 1, "b+0");
    Due.due("P12 brings as it is", x.law(1, 10, 0, 0, 0), 10);
    Due.due("P12 brings as it is", x.law(1, Integer.MIN_VALUE, 0, 0, 0), Integer.MIN_VALUE);
    Due.due("P12 any number is no error", x.law(1, Due.KIND, 0, 0, 0), Due.KIND);
    Due.due("P12 told", x.told(1), 2);
    Due.due("P12 told", x.told(5), 0);
  }

  private static void operators() {
    int min = Integer.MIN_VALUE;
    calculates("b+n", 2147483647, 1, min);
    calculates("b-n", min, 1, 2147483647);
    calculates("b*n", 65536, 65536, 0);
    calculates("b*n", 65537, 65537, 131073);
    calculates("b/n", 7, 2, 3);
    calculates("b/n", -7, 2, -3);
    calculates("b/n", 7, 0, 0);
    calculates("b/n", min, -1, min);
    calculates("b%n", 7, 4, 3);
    calculates("b%n", -7, 4, -3);
    calculates("b%n", 7, 0, 0);
    calculates("b%n", min, -1, 0);
    calculates("b<n", 1, 2, 1);
    calculates("b<n", 2, 2, 0);
    calculates("b=n", 2, 2, 1);
    calculates("b=n", 2, 3, 0);
    calculates("b>n", 3, 2, 1);
    calculates("b>n", 2, 2, 0);
    calculates("b|n", 0, 0, 0);
    calculates("b|n", 5, 0, 1);
    calculates("b|n", 0, -5, 1);
    calculates("b&n", 4, 3, 1);
    calculates("b&n", 4, 0, 0);
    calculates("b&n", 0, 4, 0);
    calculates("!b", 0, 0, 1);
    calculates("!b", 7, 0, 0);
    calculates("!!b", 7, 0, 1);
    calculates("b-n-1", 10, 3, 6);
    calculates("b/n/2", 100, 5, 10);
    calculates("b-n*2", 10, 3, 4);
    calculates("b*n-2", 10, 3, 28);
    calculates("b+n<5", 1, 3, 1);
    calculates("5<b+n", 1, 3, 0);
    calculates("b|n&0", 1, 1, 1);
    calculates("0&b|n", 1, 1, 1);
    calculates("0&(b|n)", 1, 1, 0);
    calculates("b<2&n<2", 1, 3, 0);
    calculates("1=b|n=1", 2, 1, 1);
    calculates("!b+n", 0, 5, 6);
    calculates("!(b+n)", 5, -5, 1);
    calculates("!b*n", 0, 5, 5);
    calculates("b%n*n", 17, 5, 10);
    calculates("(b-(n-1))*2", 10, 3, 16);
    calculates("b-(n-(1-2))", 10, 3, 6);
    calculates("9999*9999*b", 9999, 0, 9999 * 9999 * 9999);
    calculates("0012+b", 1, 0, 13);
    calculates("9999", 3, 4, 9999);
    calculates("9998+9999", 3, 4, 19997);
    calculates("!12", 0, 0, 0);
    calculates("!0+12", 0, 0, 13);
    calculates("p*100+h", 3, 4, 506);
  }

  /** The text with b and n as given, p 5, h 6. */
  private static void calculates(String text, int b, int n, int due) {
    Doors x = new Doors();
    Due.due("P12 text " + text, Due.text(x, 1, text), 1);
    Due.due("P12 " + text + " by " + b + ", " + n, x.law(1, b, n, 5, 6), due);
  }
}
