/** The sentences about texts: term 2, and promises 10 to 12. */
final class EdgesOfTextsTest {
  private static final int WEARS = 0;
  private static final int BRINGS = 1;
  private static final int MIN = Integer.MIN_VALUE;
  private static final int MAX = Integer.MAX_VALUE;

  public static void main(String[] args) {
    tapeBytes();
    repeats();
    comparesOnce();
    digits();
    names();
    blanks();
    openAtOnce();
    wraps();
    byZero();
    truth();
    faults();
    tooEarly();
    wearsHeld();
    bringsWithout();
    feed();
    text();
    law();
    Due.end();
  }

  /** The answer of text() for a text on a new object. */
  private static void reads(String text, int due) {
    Doors x = new Doors();
    Due.due("text(1) of " + text, Due.text(x, BRINGS, text), due);
    Due.due("bytes behind text(1) of " + text, x.count(5), 0);
  }

  /** What a text of BRINGS gives with b and n. */
  private static void gives(String text, int b, int n, int due) {
    Doors x = new Doors();
    Due.due("text(1) of " + text, Due.text(x, BRINGS, text), 1);
    Due.due(text + " with b " + b + ", n " + n, x.law(BRINGS, b, n, 0, 0), due);
  }

  private static Doors fed(int bytes) {
    Doors x = new Doors();
    for (int i = 0; i < bytes; i++) {
      x.feed(i % 2 == 0 ? 'b' : '+', 1);
    }
    return x;
  }

  private static void tapeBytes() {
    Due.sentence("TEXTS are read from THE TAPE (bytes, at most 50)");
    for (int n = 1; n <= 8; n++) {
      Doors just = fed(50 - n).takes(50, "feed", 0L, n);
      just.tells(50, "count", 5);
      just.refuses(Due.FULL, "feed", 49L, 1);
      just.refuses(Due.FULL, "feed", 49L, 8);
      fed(51 - n).refuses(Due.FULL, "feed", 0L, n);
      fed(50).refuses(Due.FULL, "feed", 0L, n);
    }
    Doors x = fed(49);
    Due.due("a text of 49 bytes", x.text(BRINGS), 1);
    Due.due("it adds 25 times", x.law(BRINGS, 3, 0, 0, 0), 75);
    Doors y = fed(49);
    y.feed('7', 1);
    Due.due("byte 49 is read, too", y.text(BRINGS), -10 - 49);
    Doors z = new Doors();
    for (int i = 0; i < 12; i++) {
      z.feed('9' + ('9' << 8) + ('9' << 16) + ('+' << 24), 4);
    }
    z.feed('1' + ('0' << 8), 2);
    Due.due("a text of 50 bytes", z.text(BRINGS), 1);
    Due.due("it adds them all", z.law(BRINGS, 0, 0, 0, 0), 12 * 999 + 10);
  }

  private static void repeats() {
    Due.sentence("T: A { | A }. A: B { & B }.");
    reads("b", 1);
    reads("b|b", 1);
    reads("b|b|b|b|b|b|b|b|b|b|b|b|b|b|b|b|b|b|b|b|b|b|b|b|b", 1);
    reads("b&b&b&b&b&b&b&b&b&b&b&b&b&b&b&b&b&b&b&b&b&b&b&b&b", 1);
    reads("|b", -10);
    reads("b|", -12);
    reads("b||b", -12);
    reads("&b", -10);
    reads("b&", -12);
    reads("b&|b", -12);
    Due.sentence("S: P { + P, - P }. P: Q { * Q, / Q, % Q }.");
    reads("b+b-b+b-b+b-b+b-b+b-b+b-b+b-b+b-b+b-b+b-b+b-b+b-b", 1);
    reads("b*b/b%b*b/b%b*b/b%b*b/b%b*b/b%b*b/b%b*b/b%b*b/b%b", 1);
    reads("+b", -10);
    reads("-b", -10);
    reads("b-", -12);
    reads("b--b", -12);
    reads("*b", -10);
    reads("b%", -12);
    reads("b**b", -12);
    gives("b-n-n", 10, 3, 4);
    gives("b/n/n", 100, 5, 4);
    gives("b-n*n", 10, 3, 1);
  }

  private static void comparesOnce() {
    Due.sentence("B: S, or S < S, S = S, S > S.");
    String signs = "<=>";
    for (char sign : signs.toCharArray()) {
      reads("b" + sign + "n", 1);
      reads("b" + sign, -12);
      reads("" + sign + "b", -10);
      reads("b" + sign + sign + "n", -12);
      for (char other : signs.toCharArray()) {
        reads("b" + sign + "n" + other + "p", -13);
        reads("b" + sign + "n+1" + other + "p", -15);
        reads("(b" + sign + "n)" + other + "p", 1);
        reads("b" + sign + "(n" + other + "p)", 1);
        reads("b" + sign + "n&n" + other + "p", 1);
        reads("b" + sign + "n|n" + other + "p", 1);
        reads("b" + sign + "n&n" + other + "p" + sign + "h", -17);
        reads("(b" + sign + "n" + other + "p)", -14);
      }
    }
    gives("b<n", 1, 2, 1);
    gives("b<n", 2, 2, 0);
    gives("b<n", MIN, MAX, 1);
    gives("b<n", MAX, MIN, 0);
    gives("b>n", 2, 1, 1);
    gives("b>n", 2, 2, 0);
    gives("b>n", MAX, MIN, 1);
    gives("b>n", MIN, MAX, 0);
    gives("b=n", 2, 2, 1);
    gives("b=n", 2, 3, 0);
    gives("b=n", MIN, MIN, 1);
  }

  private static void digits() {
    Due.sentence("Q: a NUMBER of 1 to 4 digits, a NAME, ! Q, ( T ).");
    gives("0", 7, 7, 0);
    gives("9", 7, 7, 9);
    gives("0000", 7, 7, 0);
    gives("0009", 7, 7, 9);
    gives("9999", 7, 7, 9999);
    gives("9999+9999", 7, 7, 19998);
    reads("00000", -14);
    reads("99999", -14);
    reads("10000", -14);
    reads("b+12345", -16);
    reads("(1234)5", -16);
    reads("(1)5", -13);
    reads("!1234", 1);
    reads("!12345", -15);
    reads("12b", -12);
    reads("b1", -11);
    reads("bn", -11);
    reads("b(n)", -11);
    reads("b!n", -11);
    reads("()", -11);
    reads("(b)(n)", -13);
    reads("!", -11);
    reads("!)", -11);
  }

  private static void names() {
    Due.sentence("0 WEARS, NAMES u USE, s SHARP, t STEEL, m m;");
    namesAre(WEARS, "ustm");
    Due.sentence("1 BRINGS, NAMES b 99 less SHARP, n (below), p PRICE, h HOUSE;");
    namesAre(BRINGS, "bnph");
  }

  /** All bytes but digits, ! and (: those that are names are read, the others are faults. */
  private static void namesAre(int use, String names) {
    Doors x = new Doors();
    for (int sign = 0; sign < 256; sign++) {
      if (sign == 128) x = new Doors();
      if (sign >= '0' && sign <= '9') continue;
      x.feed(sign, 1);
      int due = sign == '!' || sign == '(' ? -11 : names.indexOf(sign) >= 0 ? 1 : -10;
      Due.due("text(" + use + ") of byte " + sign, x.text(use), due);
    }
    Doors y = new Doors();
    for (int i = 0; i < 4; i++) {
      Due.law(y, use, names.substring(i, i + 1));
      Due.due("law of " + names.charAt(i), y.law(use, 1, 2, 3, 4), i + 1);
    }
  }

  private static void blanks() {
    Due.sentence("No blanks.");
    reads(" b", -10);
    reads("b ", -11);
    reads("b +n", -11);
    reads("b+ n", -12);
    reads("\tb", -10);
    reads("b\n", -11);
  }

  private static void openAtOnce() {
    Due.sentence("At most 5 of ! and ( are open at once.");
    reads("!!!!!b", 1);
    reads("!!!!!!b", -15);
    reads("(((((b)))))", 1);
    reads("((((((b))))))", -15);
    reads("!(!(!b))", 1);
    reads("!(!(!(b)))", -15);
    reads("(!(!(b)))", 1);
    reads("(!(!(!b)))", -15);
    // those that are closed again don't count
    reads("!!!!!b+!!!!!b+!!!!!b", 1);
    reads("!!!!!b+!!!!!!b", -22);
    reads("(((((b)))))*(((((n)))))", 1);
    reads("(((((b)))))*((((((n", -27);
    reads("((((!b))))-!!!!!b", 1);
    reads("((((!b)+!n)<!p)|!h)&!!!!!1", 1);
    reads("((((!b+!!n", -18);
    reads("((((!(b", -15);
    reads("(b)+(b)+(b)+(b)+(b)+(b)+(b)", 1);
    reads("!b&!b&!b&!b&!b&!b&!b&!b", 1);
    // a ! before a ( is open as long as that, and closed with it
    reads("!(!(b)+(b)+!!b)", 1);
    reads("!(!(b)+!!!!b)", -20);
    reads("!(!(b)+!!!b)", 1);
    // what a fault leaves open is not open in the next text
    Doors x = new Doors();
    for (int i = 0; i < 3; i++) {
      Due.due("text(1) of (((((b", Due.text(x, BRINGS, "(((((b"), -16);
      Due.due("text(1) of !!!!!!", Due.text(x, BRINGS, "!!!!!!"), -15);
      Due.due("text(1) of !((((b))))", Due.text(x, BRINGS, "!((((b))))"), 1);
    }
  }

  private static void wraps() {
    Due.sentence("Ints that wrap");
    gives("b+n", MAX, 1, MIN);
    gives("b+n", MIN, -1, MAX);
    gives("b+n", MAX, 0, MAX);
    gives("b-n", MIN, 1, MAX);
    gives("b-n", MAX, -1, MIN);
    gives("0-b", MIN, 0, MIN);
    gives("b*n", MIN, -1, MIN);
    gives("b*n", 46341, 46341, -2147479015);
    gives("b*n", 65536, 32768, MIN);
    gives("b*n", 65536, 65536, 0);
    gives("b/n", MIN, -1, MIN);
    gives("b%n", MIN, -1, 0);
    gives("9999*9999*9999*9999", 0, 0, 9999 * 9999 * 9999 * 9999);
  }

  private static void byZero() {
    Due.sentence("/ cut, % the rest that it leaves, both by 0 are 0");
    int[] all = {MIN, -7, -1, 0, 1, 7, MAX};
    for (int v : all) {
      gives("b/n", v, 0, 0);
      gives("b%n", v, 0, 0);
    }
    gives("b/n", 7, 1, 7);
    gives("b%n", 7, 1, 0);
    gives("b/n", 7, -1, -7);
    gives("b/n", -7, 4, -1);
    gives("b%n", -7, 4, -3);
    gives("b%n", 7, -4, 3);
    gives("b/n", MAX, MIN, 0);
    gives("b%n", MAX, MIN, MAX);
    gives("1/(b-b)+5", 3, 0, 5);
  }

  private static void truth() {
    Due.sentence("| & < = > ! are 1 or 0, what is not 0 being true; all is worked out.");
    int[] all = {MIN, -1, 0, 1, 2, MAX};
    for (int v : all) {
      for (int w : all) {
        gives("b|n", v, w, v != 0 || w != 0 ? 1 : 0);
        gives("b&n", v, w, v != 0 && w != 0 ? 1 : 0);
      }
      gives("!b", v, 0, v == 0 ? 1 : 0);
      gives("!!b", v, 0, v == 0 ? 0 : 1);
    }
    // a part that decides nothing is worked out, and by 0 is 0
    gives("0&1/0", 0, 0, 0);
    gives("1|1/0", 0, 0, 1);
  }

  private static void faults() {
    Due.sentence("FAULT: the place of the first byte with which no TEXT goes on;");
    reads(")", -10);
    reads("b)", -11);
    reads("(b))", -13);
    reads("b+(n))", -15);
    reads("b+(n+)", -15);
    reads("b$$$$", -11);
    reads("B", -10);
    reads("b+1)+((((((((((((((", -13);
    // the last byte of a full tape
    String fortynine = "b+b+b+b+b+b+b+b+b+b+b+b+b+b+b+b+b+b+b+b+b+b+b+b+b";
    reads(fortynine + ")", -10 - 49);
    reads(fortynine + "b", -10 - 49);
    reads(")" + fortynine, -10);
  }

  private static void tooEarly() {
    Due.sentence("how many there are, if it ends too early.");
    reads("", -10);
    reads("(", -11);
    reads("!", -11);
    reads("b+", -12);
    reads("(b", -12);
    reads("(b)+", -14);
    reads("(((((b))))", -10 - 10);
    reads("b+b+b+b+b+b+b+b+b+b+b+b+b+b+b+b+b+b+b+b+b+b+b+b+b+", -10 - 50);
    reads("(b+b+b+b+b+b+b+b+b+b+b+b+b+b+b+b+b+b+b+b+b+b+b+b+b", -10 - 50);
    Doors x = new Doors();
    Due.due("text(0) of an empty tape", x.text(WEARS), -10);
    for (int k = 1; k <= 5; k++) {
      Due.due("told(" + k + ")", x.told(k), 0);
    }
  }

  private static void wearsHeld() {
    Due.sentence("held within -9 to 9; without a TEXT 0.");
    Doors x = new Doors();
    int[] all = {MIN, -11, -10, -9, -8, 0, 8, 9, 10, 11, MAX};
    for (int v : all) {
      x.tells(0, "law", WEARS, v, v, v, v);
    }
    Due.law(x, WEARS, "u");
    for (int v : all) {
      x.tells(Math.max(-9, Math.min(9, v)), "law", WEARS, v, 0, 0, 0);
    }
  }

  private static void bringsWithout() {
    Due.sentence("without a TEXT as that of b+10*n-5*p-30 would.");
    int[] all = {MIN, -1, 0, 1, MAX};
    Doors is = new Doors();
    Doors due = new Doors();
    Due.law(due, BRINGS, "b+10*n-5*p-30");
    for (int v : all) {
      is.tells(v - 30, "law", BRINGS, v, 0, 0, v);
      is.tells(10 * v - 30, "law", BRINGS, 0, v, 0, v);
      is.tells(-5 * v - 30, "law", BRINGS, 0, 0, v, v);
      for (int w : all) {
        Due.due("law(1, " + v + ", " + w + ", ..)", is.law(1, v, w, v, 0), due.law(1, v, w, v, 0));
      }
    }
    // a fault doesn't bring a TEXT
    Due.text(is, BRINGS, "b+");
    is.tells(-30, "law", BRINGS, 0, 0, 0, 0);
    Due.law(is, WEARS, "9");
    is.tells(-30, "law", BRINGS, 0, 0, 0, 0);
  }

  private static void feed() {
    Due.sentence("The n lowest bytes (1 .. 8) of a word, the lowest first, come to THE TAPE: how many there are. BEYOND. FULL.");
    Doors x = Whole.begun();
    x.range(1, 8, 1, "feed", 49L, 1);
    Whole.full().refuses(Due.FULL, "feed", 49L, 1);
    // 1 byte of a word: those above it don't come; 8: the highest does, also when the word is below 0
    Doors one = new Doors();
    Due.due("feed(.., 1)", one.feed(0xb838383838383837L, 1), 1);
    Due.due("text(1)", one.text(BRINGS), 1);
    one.tells(7, "law", BRINGS, 0, 0, 0, 0);
    Due.due("feed(.., 8)", one.feed(0xb8312b312b312b31L, 8), 8);
    Due.due("text(1), the highest byte is 184", one.text(BRINGS), -17);
    Due.due("feed(.., 7)", one.feed(0xb8312b312b312b31L, 7), 7);
    Due.due("text(1)", one.text(BRINGS), 1);
    one.tells(4, "law", BRINGS, 0, 0, 0, 0);
    Due.due("feed(.., 8)", one.feed(0x372b312b312b312bL, 8), 8);
    Due.due("text(1)", one.text(BRINGS), -10);
    Due.due("feed(.., 1)", one.feed('1', 1), 1);
    Due.due("feed(.., 8)", one.feed(0x372b312b312b312bL, 8), 9);
    Due.due("text(1)", one.text(BRINGS), 1);
    one.tells(11, "law", BRINGS, 0, 0, 0, 0);
    Doors order = new Doors();
    for (int n = 1; n <= 8; n++) {
      // the word is 91-2*3/4, which ends too early by 3, 5, 7 bytes
      Due.due("feed(.., " + n + ")", order.feed(0x342f332a322d3139L, n), n);
      Due.due("text(1) of " + n, order.text(BRINGS), n > 2 && n % 2 == 1 ? -10 - n : 1);
    }
    order.tells(91 - 2 * 3 / 4, "law", BRINGS, 0, 0, 0, 0);
  }

  private static void text() {
    Due.sentence("THE TAPE, which is empty then, is the TEXT of a USE (0, 1), in place of one ahead: 1. BEYOND (THE TAPE stays)."
        + " -10 less the FAULT (no ERROR; the one ahead stays; THE TAPE is empty, too).");
    Doors x = Whole.begun();
    x.range(0, 1, 0, "text", 0);
    x.refuses(Due.BEYOND, "text", -1);
    x.refuses(Due.BEYOND, "text", 2);
    x.takes(1, "text", 0).tells(0, "count", 5);
    x.takes(1, "text", 0).tells(6, "law", 0, 3, 0, 0, 0);
    // u is a NAME of WEARS alone
    x.takes(-10, "text", 1).tells(0, "count", 5);
    for (int use = WEARS; use <= BRINGS; use++) {
      Doors emptied = Whole.begun();
      emptied.text(0);
      Doors faulty = emptied.again();
      Due.due("feed", faulty.feed('(', 1), 1);
      Due.due("text", faulty.text(use), -11);
      Whole.same("all is as ahead of a fault", faulty, emptied, 0);
      Doors empty = emptied.takes(-10, "text", use);
      Whole.same("all is as ahead of an empty text", empty, emptied, 0);
    }
    // in place of one ahead: a longer one leaves nothing behind
    Doors y = new Doors();
    Due.law(y, BRINGS, "b+n+p+h+1000+1000+1000");
    Due.law(y, BRINGS, "b");
    y.tells(5, "law", BRINGS, 5, 6, 7, 8);
    y.tells(0, "law", WEARS, 5, 6, 7, 8);
    Due.law(y, WEARS, "u");
    y.tells(5, "law", BRINGS, 5, 6, 7, 8);
    y.tells(4, "law", WEARS, 4, 6, 7, 8);
  }

  private static void law() {
    Due.sentence("What a USE gives with its NAMES in order as a, b, c, d (BRINGS: as it is). BEYOND.");
    Doors x = Whole.begun();
    x.range(0, 1, 0, "law", 0, 0, 0, 0, 0);
    Doors y = new Doors();
    Due.law(y, BRINGS, "b");
    int[] all = {MIN, -1000000006, -1000000005, -1000000001, -1000000000, -10, 10, MAX};
    for (int v : all) {
      y.tells(v, "law", BRINGS, v, 0, 0, 0);
    }
    Doors z = new Doors();
    Due.law(z, BRINGS, "b*1000+n*100+p*10+h");
    z.tells(1234, "law", BRINGS, 1, 2, 3, 4);
    Due.law(z, WEARS, "u-(s-(t-m))");
    z.tells(-2, "law", WEARS, 1, 2, 3, 4);
  }
}
