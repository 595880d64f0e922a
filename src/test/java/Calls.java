/** Calls of the class by their names. */
final class Calls {
  private Calls() {
  }

  static int answer(KnifeDoors x, String act, long... a) {
    int[] i = new int[5];
    for (int j = 0; j < a.length; j++) {
      i[j] = (int) a[j];
    }
    switch (act) {
      case "knife": return x.knife(i[0], i[1], i[2]);
      case "ofKnife": return x.ofKnife(i[0], i[1]);
      case "change": return x.change(i[0], i[1], i[2]);
      case "become": return x.become(i[0], i[1]);
      case "as": return x.as(i[0], i[1]);
      case "gains": return x.gains(i[0], i[1]);
      case "turn": return x.turn(i[0], i[1], i[2]);
      case "set": return x.set(i[0], i[1]);
      case "feed": return x.feed(a[0], i[1]);
      case "text": return x.text(i[0]);
      case "law": return x.law(i[0], i[1], i[2], i[3], i[4]);
      case "visit": return x.visit();
      case "days": return x.days(i[0]);
      case "loose": return x.loose(i[0]);
      case "then": return x.then(i[0], i[1], i[2]);
      case "thenPurse": return x.thenPurse(i[0]);
      case "often": return x.often(i[0]);
      case "dear": return x.dear(i[0]);
      case "still": return x.still(i[0], i[1]);
      case "least": return x.least(i[0], i[1], i[2]);
      case "line": return x.line(i[0], i[1]);
      case "hand": return x.hand(i[0], i[1], i[2], i[3]);
      default: return more(x, act, i);
    }
  }

  private static int more(KnifeDoors x, String act, int[] i) {
    switch (act) {
      case "seed": return x.seed(i[0]);
      case "voice": return x.voice(i[0], i[1], i[2]);
      case "trace": return x.trace(i[0]);
      case "sheet": return x.sheet(i[0], i[1], i[2]);
      case "put": return x.put(i[0], i[1], i[2]);
      case "move": return x.move(i[0], i[1], i[2], i[3], i[4]);
      case "knives": return x.knives(i[0]);
      case "image": return x.image();
      case "restore": return x.restore();
      case "tell": return x.tell(i[0]);
      case "check": return x.check(i[0]);
      case "count": return x.count(i[0]);
      case "told": return x.told(i[0]);
      default: throw new IllegalArgumentException(act);
    }
  }
}
