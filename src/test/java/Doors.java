import java.util.ArrayList;
import java.util.List;

/**
 * The class under test behind its own face: calls are noted, so that another object can be brought to the same state,
 * and counted, so that no test asks what is free (behind the 512th call of an object).
 */
final class Doors {
  private static final int MOST_CALLS = 512;

  private record Call(String act, long[] a) {
  }

  private final KnifeDoors inside = new KnifeDoors();
  private final List<Call> calls = new ArrayList<>();
  private List<String> seen = List.of();
  private int seenBehind = -1;

  int call(String act, long... a) {
    if (calls.size() >= MOST_CALLS) throw new IllegalStateException("a test goes beyond an object's 512th call");
    calls.add(new Call(act, a));
    return Calls.answer(inside, act, a);
  }

  /** Another object, on which all calls of this one were made. */
  Doors again() {
    Doors other = new Doors();
    for (Call c : calls) {
      other.call(c.act, c.a);
    }
    return other;
  }

  /** The model, to which all calls of this one were told. */
  Model asModel() {
    Model model = new Model();
    for (Call c : calls) {
      model.answer(c.act, c.a);
    }
    return model;
  }

  int calls() {
    return calls.size();
  }

  /** What can be seen of an object just like this one, which isn't asked itself. */
  List<String> seen() {
    if (seenBehind != calls.size()) {
      seen = Whole.seen(again());
      seenBehind = calls.size();
    }
    return seen;
  }

  /** A call that is refused, tried on an object just like this one: it changes nothing but what told() tells. */
  void refuses(int error, String act, long... a) {
    Doors other = again();
    String call = words(act, a);
    Due.due(call, other.call(act, a), error);
    Whole.same(call + " is refused, but", other, this, Due.BEYOND - error + 1);
  }

  /** A call that only asks, tried on an object just like this one: it changes nothing at all. */
  void tells(int due, String act, long... a) {
    Doors other = again();
    String call = words(act, a);
    Due.due(call, other.call(act, a), due);
    Whole.same(call + " only asks, but", other, this, 0);
  }

  /** A call that is taken, tried on an object just like this one, which is given back. */
  Doors takes(int due, String act, long... a) {
    Doors other = again();
    Due.due(words(act, a), other.call(act, a), due);
    return other;
  }

  /** The call with another number at a place: refused just beyond least and most, and at the ends of the ints. */
  void refusesBeyond(int least, int most, int place, String act, long... a) {
    long[] unwanted = {least - 1L, most + 1L, Integer.MIN_VALUE, Integer.MAX_VALUE};
    for (long v : unwanted) {
      refuses(Due.BEYOND, act, with(a, place, v));
    }
  }

  /** As refusesBeyond(); and at least and most the call is no error. */
  void range(int least, int most, int place, String act, long... a) {
    refusesBeyond(least, most, place, act, a);
    long[] wanted = {least, most};
    for (long v : wanted) {
      int answer = again().call(act, with(a, place, v));
      Due.due(words(act, with(a, place, v)) + " is taken (" + answer + ")", isError(answer) ? 1 : 0, 0);
    }
  }

  private static boolean isError(int answer) {
    return answer <= Due.BEYOND && answer >= Due.KIND;
  }

  private static long[] with(long[] a, int place, long v) {
    long[] changed = a.clone();
    changed[place] = v;
    return changed;
  }

  static String words(String act, long... a) {
    StringBuilder s = new StringBuilder(act).append('(');
    for (int i = 0; i < a.length; i++) {
      s.append(i > 0 ? ", " : "").append(a[i]);
    }
    return s.append(')').toString();
  }

  // ---- the face

  int knife(int km, int house, int cu) {
    return call("knife", km, house, cu);
  }

  int ofKnife(int knife, int what) {
    return call("ofKnife", knife, what);
  }

  int change(int knife, int what, int v) {
    return call("change", knife, what, v);
  }

  int become(int knife, int km) {
    return call("become", knife, km);
  }

  int as(int knife, int kind) {
    return call("as", knife, kind);
  }

  int gains(int knife, int stone) {
    return call("gains", knife, stone);
  }

  int turn(int knife, int stone, int n) {
    return call("turn", knife, stone, n);
  }

  int set(int what, int v) {
    return call("set", what, v);
  }

  int feed(long word, int n) {
    return call("feed", word, n);
  }

  int text(int use) {
    return call("text", use);
  }

  int law(int use, int a, int b, int c, int d) {
    return call("law", use, a, b, c, d);
  }

  int visit() {
    return call("visit");
  }

  int days(int n) {
    return call("days", n);
  }

  int loose(int n) {
    return call("loose", n);
  }

  int then(int n, int knife, int what) {
    return call("then", n, knife, what);
  }

  int thenPurse(int n) {
    return call("thenPurse", n);
  }

  int often(int n) {
    return call("often", n);
  }

  int dear(int n) {
    return call("dear", n);
  }

  int still(int knife, int n) {
    return call("still", knife, n);
  }

  int least(int knife, int x, int what) {
    return call("least", knife, x, what);
  }

  int line(int knife, int stone) {
    return call("line", knife, stone);
  }

  int hand(int knife, int x, int steel, int what) {
    return call("hand", knife, x, steel, what);
  }

  int seed(int v) {
    return call("seed", v);
  }

  int voice(int knife, int act, int x) {
    return call("voice", knife, act, x);
  }

  int trace(int i) {
    return call("trace", i);
  }

  int sheet(int sheet, int bits, int n) {
    return call("sheet", sheet, bits, n);
  }

  int put(int sheet, int i, int v) {
    return call("put", sheet, i, v);
  }

  int move(int sheet, int i, int other, int j, int n) {
    return call("move", sheet, i, other, j, n);
  }

  int knives(int sheet) {
    return call("knives", sheet);
  }

  int image() {
    return call("image");
  }

  int restore() {
    return call("restore");
  }

  int tell(int v) {
    return call("tell", v);
  }

  int check(int knife) {
    return call("check", knife);
  }

  int count(int what) {
    return call("count", what);
  }

  int told(int k) {
    return call("told", k);
  }
}
