import java.util.ArrayList;
import java.util.Arrays;
import java.util.List;

/**
 * The document once more, in its plainest form, however slow: kinds are classes, errors are thrown, what is ahead is a
 * copy, a text is read by its grammar each time, its fault is found by trying what may go on.
 */
final class Model {
  static final int LOW = -1000000000;

  static final class Refused extends RuntimeException {
    private static final long serialVersionUID = 1L;
    final int k;

    Refused(int k) {
      super(null, null, false, false);
      this.k = k;
    }
  }

  private static void beyond(boolean isSo) {
    if (isSo) throw new Refused(1);
  }

  private static void none(boolean isSo) {
    if (isSo) throw new Refused(2);
  }

  private static void state(boolean isSo) {
    if (isSo) throw new Refused(3);
  }

  private static void full(boolean isSo) {
    if (isSo) throw new Refused(4);
  }

  private static void kind(boolean isSo) {
    if (isSo) throw new Refused(5);
  }

  private static boolean in(int v, int least, int most) {
    return least <= v && v <= most;
  }

  // ---- the kinds

  static class Edge {
    Knife k;
    Model says;

    int dulls() {
      return 1 + k.use;
    }

    int gains(int t) {
      return 8 - 2 * t;
    }

    void begins(int body) {
      says.trace.add(body);
    }

    int cuts(int x) {
      begins(10);
      return x + k.number;
    }

    int rings(int x) {
      begins(11);
      return cuts(x) * 2;
    }

    int grinds(int x) {
      begins(12);
      return x - k.m;
    }

    int tells(int x) {
      begins(13);
      return rings(x) ^ grinds(x);
    }
  }

  static class Keen extends Edge {
    @Override int dulls() {
      return 2 * super.dulls();
    }

    @Override int rings(int x) {
      begins(20);
      return super.rings(x) - grinds(1);
    }
  }

  static class Coarse extends Edge {
    @Override int dulls() {
      return super.dulls() - 1;
    }

    @Override int gains(int t) {
      return super.gains(t) + (t == 0 ? 1 : 0);
    }

    @Override int cuts(int x) {
      begins(30);
      return super.cuts(x) * 3;
    }
  }

  static class Blunt extends Edge {
    @Override int dulls() {
      return k.sharp >= 20 ? 1 : 0;
    }

    @Override int gains(int t) {
      return super.gains(t) - 1;
    }

    @Override int grinds(int x) {
      begins(40);
      return -super.grinds(x);
    }
  }

  static class Burnt extends Keen {
    @Override int dulls() {
      return super.dulls() + k.m;
    }

    @Override int gains(int t) {
      return super.gains(t) / 2;
    }

    @Override int rings(int x) {
      begins(50);
      return super.rings(x + 1);
    }
  }

  static class Nicked extends Coarse {
    @Override int dulls() {
      return super.dulls() + k.m / 2;
    }

    @Override int gains(int t) {
      return t <= 1 ? super.gains(t) : 0;
    }

    @Override int tells(int x) {
      begins(60);
      return super.tells(x) - cuts(2);
    }
  }

  static class Worn extends Blunt {
    @Override int dulls() {
      return 2 * super.dulls();
    }

    @Override int gains(int t) {
      return 1;
    }

    @Override int grinds(int x) {
      begins(70);
      return super.grinds(x) ^ k.number;
    }

    @Override int tells(int x) {
      begins(71);
      return rings(x) - super.tells(x);
    }
  }

  private static final List<Class<?>> KINDS =
      List.of(Edge.class, Keen.class, Coarse.class, Blunt.class, Burnt.class, Nicked.class, Worn.class);

  static final class Knife {
    int number;
    int kind;
    int m;
    int house;
    int sharp = 60;
    int steel = 200;
    int heat;
    int cuts;
    int use;
    int ground;

    Knife copy() {
      Knife c = new Knife();
      c.number = number;
      c.kind = kind;
      c.m = m;
      c.house = house;
      c.sharp = sharp;
      c.steel = steel;
      c.heat = heat;
      c.cuts = cuts;
      c.use = use;
      c.ground = ground;
      return c;
    }

    Edge edge(Model says) {
      Edge[] edges = {new Edge(), new Keen(), new Coarse(), new Blunt(), new Burnt(), new Nicked(), new Worn()};
      Edge e = edges[kind];
      e.k = this;
      e.says = says;
      return e;
    }

    void turnOn(int t, int water) {
      int most = t == 0 ? 40 : t == 1 ? 60 : t == 2 ? 80 : 99;
      sharp += edge(null).gains(t);
      if (sharp > most) sharp = most;
      steel -= 3 - t;
      if (steel < 0) steel = 0;
      heat += 9 - 2 * t;
      heat -= water;
      if (heat > 99) heat = 99;
      if (heat < 0) heat = 0;
      if (steel == 0) {
        kind = 6;
      } else if (heat >= 60) {
        kind = 4;
        heat = 0;
      }
    }

    void byRecipe(int[] recipe, int water) {
      for (int t = 0; t < 4; t++) {
        for (int i = 0; i < recipe[t]; i++) {
          turnOn(t, water);
        }
      }
    }
  }

  // ---- texts, by their grammar

  static final class Grammar {
    final String text;
    final String names;
    final int[] values;
    int at = 0;
    int open = 0;

    Grammar(String text, String names, int[] values) {
      this.text = text;
      this.names = names;
      this.values = values;
    }

    static boolean is(String text, String names) {
      try {
        Grammar g = new Grammar(text, names, new int[4]);
        g.t();
        return g.at == text.length();
      } catch (Refused r) {
        return false;
      }
    }

    private char next() {
      return at < text.length() ? text.charAt(at) : 0;
    }

    private boolean takes(String signs) {
      boolean is = at < text.length() && signs.indexOf(text.charAt(at)) >= 0;
      if (is) at++;
      return is;
    }

    int t() {
      int v = a();
      while (takes("|")) {
        int w = a();
        v = v != 0 || w != 0 ? 1 : 0;
      }
      return v;
    }

    private int a() {
      int v = b();
      while (takes("&")) {
        int w = b();
        v = v != 0 && w != 0 ? 1 : 0;
      }
      return v;
    }

    private int b() {
      int v = s();
      char sign = next();
      if (!takes("<=>")) return v;
      int w = s();
      return (sign == '<' ? v < w : sign == '=' ? v == w : v > w) ? 1 : 0;
    }

    private int s() {
      int v = p();
      for (char sign = next(); takes("+-"); sign = next()) {
        int w = p();
        v = sign == '+' ? v + w : v - w;
      }
      return v;
    }

    private int p() {
      int v = q();
      for (char sign = next(); takes("*/%"); sign = next()) {
        int w = q();
        if (sign == '*') {
          v *= w;
        } else if (w == 0) {
          v = 0;
        } else {
          v = (int) (sign == '/' ? (long) v / w : (long) v % w);
        }
      }
      return v;
    }

    private int q() {
      if (takes("!")) {
        opens();
        int v = q();
        open--;
        return v == 0 ? 1 : 0;
      }
      if (takes("(")) {
        opens();
        int v = t();
        if (!takes(")")) throw new Refused(0);
        open--;
        return v;
      }
      int name = at < text.length() ? names.indexOf(next()) : -1;
      if (name >= 0) {
        at++;
        return values[name];
      }
      int from = at;
      while (at - from < 4 && takes("0123456789")) {
      }
      if (at == from) throw new Refused(0);
      return Integer.parseInt(text.substring(from, at));
    }

    private void opens() {
      open++;
      if (open > 5) throw new Refused(0);
    }
  }

  /** Whether some text begins so. */
  private static boolean goesOn(String begun, String names) {
    for (String operand : new String[] {"", "1"}) {
      for (String closing = ""; closing.length() <= 5; closing += ")") {
        if (Grammar.is(begun + operand + closing, names)) return true;
      }
    }
    return false;
  }

  private static final String[] NAMES = {"ustm", "bnph"};

  private int gives(int use, int a, int b, int c, int d) {
    if (use == 0 && texts[0] == null) return 0;
    String text = texts[use] == null ? "b+10*n-5*p-30" : texts[use];
    int v = new Grammar(text, NAMES[use], new int[] {a, b, c, d}).t();
    return use == 1 ? v : Math.max(-9, Math.min(9, v));
  }

  // ---- what an image keeps

  List<Knife> owned = new ArrayList<>();
  int[] recipe = {1, 1, 1, 1};
  int water = 4;
  int price = 4;
  int weeks = 3;
  int purse = 0;
  int day = 0;
  int z = 1;
  String[] texts = new String[2];
  StringBuilder tape = new StringBuilder();
  List<Integer> waiting = new ArrayList<>();

  // ---- what it doesn't

  private final List<Integer> trace = new ArrayList<>();
  private final int[] told = new int[6];
  private int images = 0;
  private Model kept;
  private final int[] bitsOf = new int[4];
  private final int[][] sheets = new int[4][];

  private Model copy() {
    Model c = new Model();
    c.take(this);
    return c;
  }

  private void take(Model other) {
    owned = new ArrayList<>();
    for (Knife k : other.owned) {
      owned.add(k.copy());
    }
    recipe = other.recipe.clone();
    water = other.water;
    price = other.price;
    weeks = other.weeks;
    purse = other.purse;
    day = other.day;
    z = other.z;
    texts = other.texts.clone();
    tape = new StringBuilder(other.tape);
    waiting = new ArrayList<>(other.waiting);
  }

  private int dulls(Knife k) {
    int v = k.edge(null).dulls() + gives(0, k.use, k.sharp, k.steel, k.m);
    return v < 0 ? 0 : v > 99 ? 99 : v;
  }

  private int of(Knife k, int what) {
    if (what == 9) return dulls(k);
    return new int[] {k.kind, k.m, k.house, k.sharp, k.steel, k.heat, k.cuts, k.use, k.ground}[what];
  }

  private Model day(boolean isLoose) {
    if (day % (7 * weeks) == 0) rings();
    for (Knife k : owned) {
      int times = 1;
      if (isLoose) {
        z = (int) (z * 1103515245L + 12345);
        if ((z >>> 8) % 4 == 0) times = 2;
      }
      k.sharp = Math.max(0, k.sharp - times * k.cuts * dulls(k));
      k.heat = 0;
    }
    day++;
    return this;
  }

  private int rings() {
    List<Knife> brought = new ArrayList<>();
    for (Knife k : owned) {
      int n = (int) brought.stream().filter(o -> Math.abs(o.house - k.house) == 1).count();
      if (k.kind == 6 || gives(1, 99 - k.sharp, n, price, k.house) <= 0) continue;
      brought.add(k);
      k.byRecipe(recipe, water);
      k.ground = Math.min(9999, k.ground + 1);
      purse = Math.min(999999, purse + price);
    }
    return brought.size();
  }

  private Model ahead(int n) {
    Model c = copy();
    for (int i = 0; i < n; i++) {
      c.day(false);
    }
    return c;
  }

  private Knife at(int knife) {
    beyond(!in(knife, 0, owned.size() - 1));
    return owned.get(knife);
  }

  // ---- the acts, as they are called by name

  int answer(String act, long... a) {
    int[] i = new int[5];
    for (int j = 0; j < a.length; j++) {
      i[j] = (int) a[j];
    }
    try {
      return does(act, i, a);
    } catch (Refused r) {
      told[r.k]++;
      return LOW - r.k;
    }
  }

  private int does(String act, int[] i, long[] a) {
    switch (act) {
      case "knife": return knife(i[0], i[1], i[2]);
      case "ofKnife": return ofKnife(i[0], i[1]);
      case "change": return change(i[0], i[1], i[2]);
      case "become": return become(i[0], i[1]);
      case "as": return as(i[0], i[1]);
      case "gains": return gains(i[0], i[1]);
      case "turn": return turn(i[0], i[1], i[2]);
      case "set": return set(i[0], i[1]);
      case "feed": return feed(a[0], i[1]);
      case "text": return text(i[0]);
      case "law": beyond(!in(i[0], 0, 1)); return gives(i[0], i[1], i[2], i[3], i[4]);
      case "visit": return rings();
      case "days": return days(i[0], false);
      case "loose": return days(i[0], true);
      case "then": return then(i[0], i[1], i[2]);
      case "thenPurse": beyond(!in(i[0], 0, 400)); return ahead(i[0]).purse;
      case "often": return often(i[0]);
      case "dear": return dear(i[0]);
      case "still": return still(i[0], i[1]);
      case "least": return least(i[0], i[1], i[2]);
      case "line": return line(i[0], i[1]);
      case "hand": return hand(i[0], i[1], i[2], i[3]);
      default: return doesMore(act, i);
    }
  }

  private int doesMore(String act, int[] i) {
    switch (act) {
      case "seed": { int was = z; z = i[0]; return was; }
      case "voice": return voice(i[0], i[1], i[2]);
      case "trace": none(!in(i[0], 0, Math.min(40, trace.size()) - 1)); return trace.get(i[0]);
      case "sheet": return sheet(i[0], i[1], i[2]);
      case "put": return put(i[0], i[1], i[2]);
      case "move": return move(i[0], i[1], i[2], i[3], i[4]);
      case "knives": return knives(i[0]);
      case "image": kept = copy(); return ++images;
      case "restore": none(kept == null); take(kept); return day;
      case "tell": full(waiting.size() == 20); waiting.add(i[0]); return waiting.size();
      case "check": return check(i[0]);
      case "count": return count(i[0]);
      case "told": beyond(!in(i[0], 1, 5)); return told[i[0]];
      default: throw new IllegalArgumentException(act);
    }
  }

  private int knife(int km, int house, int cu) {
    beyond(km < 0 || km > 69 || house < 0 || house > 5 || cu < 0 || cu > 93 || cu % 10 > 3);
    full(owned.size() == 8);
    Knife k = new Knife();
    k.number = owned.size();
    k.kind = km / 10;
    k.m = km % 10;
    k.house = house;
    k.cuts = cu / 10;
    k.use = cu % 10;
    owned.add(k);
    return k.number;
  }

  private int ofKnife(int knife, int what) {
    Knife k = at(knife);
    beyond(!in(what, 0, 9));
    return of(k, what);
  }

  private int change(int knife, int what, int v) {
    Knife k = at(knife);
    beyond(!in(what, 2, 7));
    beyond(!in(v, 0, new int[] {5, 99, 999, 99, 9, 3}[what - 2]));
    int was = of(k, what);
    if (what == 2) k.house = v;
    if (what == 3) k.sharp = v;
    if (what == 4) k.steel = v;
    if (what == 5) k.heat = v;
    if (what == 6) k.cuts = v;
    if (what == 7) k.use = v;
    return was;
  }

  private int become(int knife, int km) {
    Knife k = at(knife);
    beyond(!in(km, 0, 69));
    int was = k.kind;
    k.kind = km / 10;
    k.m = km % 10;
    return was;
  }

  private int as(int knife, int wanted) {
    Knife k = at(knife);
    beyond(!in(wanted, 0, 6));
    kind(!KINDS.get(wanted).isInstance(k.edge(this)));
    return k.m;
  }

  private int gains(int knife, int stone) {
    Knife k = at(knife);
    beyond(!in(stone, 0, 3));
    return k.edge(this).gains(stone);
  }

  private int turn(int knife, int stone, int n) {
    Knife k = at(knife);
    beyond(!in(stone, 0, 3) || !in(n, 1, 60));
    for (int i = 0; i < n; i++) {
      k.turnOn(stone, water);
    }
    return k.sharp;
  }

  private int set(int what, int v) {
    beyond(!in(what, 0, 6));
    beyond(!in(v, what == 6 ? 1 : 0, what == 6 ? 12 : what == 5 ? 20 : 9));
    int was = what == 6 ? weeks : what == 5 ? price : what == 4 ? water : recipe[what];
    if (what == 6) weeks = v;
    if (what == 5) price = v;
    if (what == 4) water = v;
    if (what < 4) recipe[what] = v;
    return was;
  }

  private int feed(long word, int n) {
    beyond(!in(n, 1, 8));
    full(tape.length() + n > 50);
    for (int i = 0; i < n; i++) {
      tape.append((char) (word & 255));
      word >>= 8;
    }
    return tape.length();
  }

  private int text(int use) {
    beyond(!in(use, 0, 1));
    String text = tape.toString();
    tape.setLength(0);
    for (int i = 0; i < text.length(); i++) {
      if (!goesOn(text.substring(0, i + 1), NAMES[use])) return -10 - i;
    }
    if (!Grammar.is(text, NAMES[use])) return -10 - text.length();
    texts[use] = text;
    return 1;
  }

  private int days(int n, boolean isLoose) {
    beyond(!in(n, 1, 400));
    state(day + n > 9999);
    for (int i = 0; i < n; i++) {
      day(isLoose);
    }
    return purse;
  }

  private int then(int n, int knife, int what) {
    beyond(!in(n, 0, 400) || !in(what, 0, 9));
    at(knife);
    Model then = ahead(n);
    return then.of(then.owned.get(knife), what);
  }

  private int often(int n) {
    beyond(!in(n, 0, 400));
    int best = 12;
    for (int w = 12; w >= 1; w--) {
      if (withWeeks(w).ahead(n).purse >= withWeeks(best).ahead(n).purse) best = w;
    }
    return best;
  }

  private Model withWeeks(int w) {
    Model c = copy();
    c.weeks = w;
    return c;
  }

  private int dear(int n) {
    beyond(!in(n, 0, 400));
    int best = 20;
    for (int p = 20; p >= 0; p--) {
      if (withPrice(p).ahead(n).purse >= withPrice(best).ahead(n).purse) best = p;
    }
    return best;
  }

  private Model withPrice(int p) {
    Model c = copy();
    c.price = p;
    return c;
  }

  private int still(int knife, int n) {
    at(knife);
    beyond(!in(n, 0, 400));
    Model c = copy();
    int behind = 0;
    while (c.owned.get(knife).kind != 6) {
      none(behind == n);
      c.day(false);
      behind++;
    }
    return behind;
  }

  private interface Trial {
    void of(int[] recipe, Knife ground);
  }

  private void allRecipes(Knife from, Trial trial) {
    for (int r = 0; r < 625; r++) {
      int[] row = {r / 125, r / 25 % 5, r / 5 % 5, r % 5};
      Knife k = from.copy();
      k.byRecipe(row, water);
      trial.of(row, k);
    }
  }

  private int least(int knife, int x, int what) {
    Knife k = at(knife);
    beyond(!in(x, 0, 99) || !in(what, -1, 3));
    List<int[]> found = new ArrayList<>();
    allRecipes(k, (row, ground) -> {
      if (ground.sharp >= x && ground.kind == k.kind) {
        found.add(new int[] {k.steel - ground.steel, Arrays.stream(row).sum(), row[0], row[1], row[2], row[3]});
      }
    });
    none(found.isEmpty());
    found.sort(Arrays::compare);
    return found.get(0)[what < 0 ? 0 : what + 2];
  }

  private int line(int knife, int stone) {
    Knife k = at(knife);
    beyond(!in(stone, 0, 3));
    int steel = k.steel;
    int heat = k.heat;
    int turns = 0;
    while (turns < 60) {
      steel = Math.max(0, steel - 3 + stone);
      heat = Math.max(0, Math.min(99, heat + 9 - 2 * stone - water));
      if (steel == 0 || heat >= 60) break;
      turns++;
    }
    return turns;
  }

  private int hand(int knife, int x, int steel, int what) {
    Knife k = at(knife);
    beyond(!in(x, 0, 99) || !in(steel, 0, 999) || !in(what, -1, 3));
    Knife was = k.copy();
    was.sharp = x;
    was.steel = steel;
    was.heat = 0;
    List<int[]> found = new ArrayList<>();
    allRecipes(was, (row, ground) -> {
      if (ground.sharp == k.sharp && ground.steel == k.steel) found.add(row);
    });
    if (what < 0) return found.size();
    none(found.isEmpty());
    return found.get(0)[what];
  }

  private int voice(int knife, int act, int x) {
    Knife k = at(knife);
    beyond(!in(act, 0, 3));
    trace.clear();
    Edge edge = k.edge(this);
    if (act == 0) return edge.cuts(x);
    if (act == 1) return edge.rings(x);
    return act == 2 ? edge.grinds(x) : edge.tells(x);
  }

  private int sheet(int sheet, int bits, int n) {
    beyond(!in(sheet, 0, 3) || !List.of(0, 8, 16, 32).contains(bits));
    if (bits != 0) {
      state(n < 0);
      beyond(n > 40);
    }
    bitsOf[sheet] = bits;
    sheets[sheet] = bits == 0 ? null : new int[n];
    return 1;
  }

  private int put(int sheet, int i, int v) {
    beyond(!in(sheet, 0, 3));
    none(sheets[sheet] == null);
    beyond(!in(i, 0, sheets[sheet].length - 1));
    sheets[sheet][i] = (int) (v & ((1L << bitsOf[sheet]) - 1));
    return 1;
  }

  private int move(int sheet, int i, int other, int j, int n) {
    beyond(!in(sheet, 0, 3) || !in(other, 0, 3));
    none(sheets[sheet] == null || sheets[other] == null);
    kind(bitsOf[sheet] != bitsOf[other]);
    beyond(n < 0 || i < 0 || j < 0);
    beyond((long) i + n > sheets[sheet].length || (long) j + n > sheets[other].length);
    int[] were = sheets[sheet].clone();
    for (int at = 0; at < n; at++) {
      sheets[other][j + at] = were[i + at];
    }
    return n;
  }

  private int knives(int sheet) {
    beyond(!in(sheet, 0, 3));
    none(sheets[sheet] == null);
    int came = 0;
    try {
      for (int i = 0; i + 3 <= sheets[sheet].length; i += 3) {
        knife(sheets[sheet][i], sheets[sheet][i + 1], sheets[sheet][i + 2]);
        came++;
      }
    } catch (Refused r) {
      return came;
    }
    return came;
  }

  private int check(int knife) {
    List<Integer> said = waiting;
    waiting = new ArrayList<>();
    at(knife);
    for (int i = 0; i < said.size(); i++) {
      if (ahead(i + 1).owned.get(knife).sharp != said.get(i)) return 1 + i;
    }
    return 0;
  }

  private int count(int what) {
    beyond(!in(what, 0, 8));
    int steel = owned.stream().mapToInt(k -> k.steel).sum();
    int ground = owned.stream().mapToInt(k -> k.ground).sum();
    int traced = Math.min(40, trace.size());
    return new int[] {day, owned.size(), purse, steel, ground, tape.length(), waiting.size(), traced, z}[what];
  }
}
