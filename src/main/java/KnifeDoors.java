/** Knives from door to door: who brings them, how they are ground, and what becomes of their edges. */
public final class KnifeDoors {
  private static final int LOW = -1000000000;
  private static final int BEYOND = 1;
  private static final int NONE = 2;
  private static final int STATE = 3;
  private static final int FULL = 4;
  private static final int UNLIKE = 5;

  private static final int EDGE = 0;
  private static final int KEEN = 1;
  private static final int COARSE = 2;
  private static final int BLUNT = 3;
  private static final int BURNT = 4;
  private static final int NICKED = 5;
  private static final int WORN = 6;
  /** The kind above each kind; the edge itself has none. */
  private static final int[] KIND_ABOVE = {-1, EDGE, EDGE, EDGE, KEEN, COARSE, BLUNT};

  private static final int HOUSES = 6;
  private static final int MOST_KNIVES = 8;
  private static final int MOST_KM = 69;
  private static final int STONES = 4;
  private static final int[] SHARPEST_ON = {40, 60, 80, 99};
  private static final int HOT = 60;
  private static final int MOST_TURNS = 60;
  private static final int MOST_GROUND = 9999;
  private static final int MOST_PURSE = 999999;
  private static final int MOST_WEEKS = 12;
  private static final int MOST_PRICE = 20;
  private static final int MOST_DAYS = 400;
  private static final int LAST_DAY = 9999;

  private static final int DULLS = 9;
  /** What change() may set a part of a knife to at most; -1: not at all. */
  private static final int[] MOST_BY_CHANGE = {-1, -1, 5, 99, 999, 99, 9, 3};

  private static final int WATER = 4;
  private static final int PRICE = 5;
  private static final int WEEKS = 6;
  private static final int[] LEAST_BY_SET = {0, 0, 0, 0, 0, 0, 1};
  private static final int[] MOST_BY_SET = {9, 9, 9, 9, 9, MOST_PRICE, MOST_WEEKS};

  private static final int TAPE_BYTES = 50;
  private static final int BYTES_OF_A_WORD = 8;
  private static final int WEARS = 0;
  private static final int BRINGS = 1;
  private static final String NAMES_OF_WEARS = "ustm";
  private static final String NAMES_OF_BRINGS = "bnph";
  private static final int MOST_WAITING = 20;

  private static final int SHEETS = 4;
  private static final int MOST_NUMBERS = 40;
  private static final int MOST_TRACED = 40;

  private final Street now = new Street();
  private final Street ahead = new Street();
  private final Street kept = new Street();
  private int images = 0;
  private final Reader reader = new Reader();
  private final Knife trial = new Knife();
  private final Recipes recipes = new Recipes();
  private final Voice speaker = new Voice();
  private final Sheet[] sheets = new Sheet[SHEETS];
  private final int[] errors = new int[UNLIKE + 1];

  public KnifeDoors() {
    for (int i = 0; i < sheets.length; i++) {
      sheets[i] = new Sheet();
    }
  }

  // ---- knives, he

  public int knife(int km, int house, int cu) {
    if (!isNewKnife(km, house, cu)) return error(BEYOND);
    if (now.isFull()) return error(FULL);
    return now.addKnife(km, house, cu);
  }

  public int ofKnife(int knife, int what) {
    if (!isKnife(knife) || !isWithin(what, 0, DULLS)) return error(BEYOND);
    return now.partOf(now.owned[knife], what);
  }

  public int change(int knife, int what, int v) {
    if (!isKnife(knife) || !isWithin(what, 0, MOST_BY_CHANGE.length - 1)) return error(BEYOND);
    if (!isWithin(v, 0, MOST_BY_CHANGE[what])) return error(BEYOND);
    Knife changed = now.owned[knife];
    int was = changed.part(what);
    changed.setPart(what, v);
    return was;
  }

  public int become(int knife, int km) {
    if (!isKnife(knife) || !isWithin(km, 0, MOST_KM)) return error(BEYOND);
    Knife changed = now.owned[knife];
    int was = changed.kind;
    changed.setEdge(km);
    return was;
  }

  public int as(int knife, int kind) {
    if (!isKnife(knife) || !isWithin(kind, EDGE, WORN)) return error(BEYOND);
    if (!isOfKind(now.owned[knife].kind, kind)) return error(UNLIKE);
    return now.owned[knife].m;
  }

  public int gains(int knife, int stone) {
    if (!isKnife(knife) || !isStone(stone)) return error(BEYOND);
    return now.owned[knife].gainsOn(stone);
  }

  public int turn(int knife, int stone, int n) {
    if (!isKnife(knife) || !isStone(stone) || !isWithin(n, 1, MOST_TURNS)) return error(BEYOND);
    now.owned[knife].grind(stone, n, now.water);
    return now.owned[knife].sharp;
  }

  public int set(int what, int v) {
    if (!isWithin(what, 0, MOST_BY_SET.length - 1)) return error(BEYOND);
    if (!isWithin(v, LEAST_BY_SET[what], MOST_BY_SET[what])) return error(BEYOND);
    return now.exchange(what, v);
  }

  // ---- texts

  public int feed(long word, int n) {
    if (!isWithin(n, 1, BYTES_OF_A_WORD)) return error(BEYOND);
    if (now.taped + n > TAPE_BYTES) return error(FULL);
    for (int i = 0; i < n; i++) {
      now.tape[now.taped] = (int) (word >>> (8 * i)) & 255;
      now.taped++;
    }
    return now.taped;
  }

  public int text(int use) {
    if (!isUse(use)) return error(BEYOND);
    int fault = reader.read(now.tape, now.taped, use == WEARS ? NAMES_OF_WEARS : NAMES_OF_BRINGS);
    now.taped = 0;
    if (fault >= 0) return -10 - fault;
    Text replaced = use == WEARS ? now.wears : now.brings;
    replaced.copyFrom(reader.text);
    return 1;
  }

  public int law(int use, int a, int b, int c, int d) {
    if (!isUse(use)) return error(BEYOND);
    return use == WEARS ? now.wearsGives(a, b, c, d) : now.bringsGives(a, b, c, d);
  }

  // ---- days

  public int visit() {
    return now.ring();
  }

  public int days(int n) {
    return passOf(n, false);
  }

  public int loose(int n) {
    return passOf(n, true);
  }

  // ---- ahead

  public int then(int n, int knife, int what) {
    if (!isAhead(n) || !isKnife(knife) || !isWithin(what, 0, DULLS)) return error(BEYOND);
    lookAhead(n);
    return ahead.partOf(ahead.owned[knife], what);
  }

  public int thenPurse(int n) {
    if (!isAhead(n)) return error(BEYOND);
    lookAhead(n);
    return ahead.purse;
  }

  public int often(int n) {
    if (!isAhead(n)) return error(BEYOND);
    return bestFor(WEEKS, n);
  }

  public int dear(int n) {
    if (!isAhead(n)) return error(BEYOND);
    return bestFor(PRICE, n);
  }

  public int still(int knife, int n) {
    if (!isKnife(knife) || !isAhead(n)) return error(BEYOND);
    ahead.copyFrom(now);
    for (int day = 0; day <= n; day++) {
      if (day > 0) ahead.pass(1, false);
      if (ahead.owned[knife].kind == WORN) return day;
    }
    return error(NONE);
  }

  // ---- grinding

  public int least(int knife, int x, int what) {
    if (!isKnife(knife) || !isWithin(x, 0, 99) || !isWithin(what, -1, STONES - 1)) return error(BEYOND);
    int steel = leastSteel(now.owned[knife], x);
    if (steel < 0) return error(NONE);
    return what < 0 ? steel : recipes.chosen[what];
  }

  public int line(int knife, int stone) {
    if (!isKnife(knife) || !isStone(stone)) return error(BEYOND);
    trial.copyFrom(now.owned[knife]);
    for (int turns = 0; turns < MOST_TURNS; turns++) {
      trial.rub(stone, now.water);
      if (trial.steel == 0 || trial.heat >= HOT) return turns;
    }
    return MOST_TURNS;
  }

  public int hand(int knife, int x, int steel, int what) {
    if (!isKnife(knife) || !isWithin(x, 0, 99)) return error(BEYOND);
    if (!isWithin(steel, 0, 999) || !isWithin(what, -1, STONES - 1)) return error(BEYOND);
    int ways = waysFrom(now.owned[knife], x, steel);
    if (what < 0) return ways;
    return ways == 0 ? error(NONE) : recipes.chosen[what];
  }

  // ---- draws, voices, sheets, images, what is told

  public int seed(int v) {
    int was = now.z;
    now.z = v;
    return was;
  }

  public int voice(int knife, int act, int x) {
    if (!isKnife(knife) || !isWithin(act, 0, Voice.ACTS - 1)) return error(BEYOND);
    return speaker.speak(knife, now.owned[knife], act, x);
  }

  public int trace(int i) {
    if (!isWithin(i, 0, speaker.traced - 1)) return error(NONE);
    return speaker.bodies[i];
  }

  public int sheet(int sheet, int bits, int n) {
    if (!isSheet(sheet) || !isBits(bits)) return error(BEYOND);
    if (bits != 0 && n < 0) return error(STATE);
    if (bits != 0 && n > MOST_NUMBERS) return error(BEYOND);
    sheets[sheet].make(bits, bits == 0 ? 0 : n);
    return 1;
  }

  public int put(int sheet, int i, int v) {
    if (!isSheet(sheet)) return error(BEYOND);
    if (sheets[sheet].isMissing()) return error(NONE);
    if (!isWithin(i, 0, sheets[sheet].size - 1)) return error(BEYOND);
    sheets[sheet].write(i, v);
    return 1;
  }

  public int move(int sheet, int i, int other, int j, int n) {
    if (!isSheet(sheet) || !isSheet(other)) return error(BEYOND);
    Sheet from = sheets[sheet];
    Sheet to = sheets[other];
    if (from.isMissing() || to.isMissing()) return error(NONE);
    if (from.bits != to.bits) return error(UNLIKE);
    if (!from.has(i, n) || !to.has(j, n)) return error(BEYOND);
    System.arraycopy(from.numbers, i, to.numbers, j, n);
    return n;
  }

  public int knives(int sheet) {
    if (!isSheet(sheet)) return error(BEYOND);
    Sheet from = sheets[sheet];
    if (from.isMissing()) return error(NONE);
    int came = 0;
    for (int i = 0; i + 2 < from.size && i + 2 < MOST_NUMBERS; i += 3) {
      int km = from.numbers[i];
      int house = from.numbers[i + 1];
      int cu = from.numbers[i + 2];
      if (!isNewKnife(km, house, cu) || now.isFull()) break;
      now.addKnife(km, house, cu);
      came++;
    }
    return came;
  }

  public int image() {
    kept.copyFrom(now);
    images++;
    return images;
  }

  public int restore() {
    if (images == 0) return error(NONE);
    now.copyFrom(kept);
    return now.day;
  }

  public int tell(int v) {
    if (now.waiting >= MOST_WAITING) return error(FULL);
    now.numbers[now.waiting] = v;
    now.waiting++;
    return now.waiting;
  }

  public int check(int knife) {
    int waited = now.waiting;
    now.waiting = 0;
    if (!isKnife(knife)) return error(BEYOND);
    ahead.copyFrom(now);
    for (int i = 0; i < waited && i < MOST_WAITING; i++) {
      ahead.pass(1, false);
      if (ahead.owned[knife].sharp != now.numbers[i]) return 1 + i;
    }
    return 0;
  }

  public int count(int what) {
    switch (what) {
      case 0: return now.day;
      case 1: return now.size;
      case 2: return now.purse;
      case 3: return now.steelOfAll();
      case 4: return now.groundOfAll();
      case 5: return now.taped;
      case 6: return now.waiting;
      case 7: return speaker.traced;
      case 8: return now.z;
      default: return error(BEYOND);
    }
  }

  public int told(int k) {
    if (!isWithin(k, BEYOND, UNLIKE)) return error(BEYOND);
    return errors[k];
  }

  // ---- what the acts have in common

  private int error(int k) {
    errors[k]++;
    return LOW - k;
  }

  private boolean isKnife(int knife) {
    return knife >= 0 && knife < now.size;
  }

  private int passOf(int n, boolean loosely) {
    if (!isWithin(n, 1, MOST_DAYS)) return error(BEYOND);
    if (now.day + n > LAST_DAY) return error(STATE);
    now.pass(n, loosely);
    return now.purse;
  }

  private void lookAhead(int n) {
    ahead.copyFrom(now);
    ahead.pass(n, false);
  }

  /** The value of what (as set() counts) by which the purse is most ahead by n; of several the least. */
  private int bestFor(int what, int n) {
    int best = LEAST_BY_SET[what];
    int mostPurse = -1;
    for (int v = LEAST_BY_SET[what]; v <= MOST_BY_SET[what]; v++) {
      ahead.copyFrom(now);
      ahead.exchange(what, v);
      ahead.pass(n, false);
      if (ahead.purse > mostPurse) {
        mostPurse = ahead.purse;
        best = v;
      }
    }
    return best;
  }

  /** How little steel makes a knife sharp by x, its kind unchanged (-1: nothing does); that recipe is chosen. */
  private int leastSteel(Knife knife, int x) {
    int leastSteel = -1;
    int fewestTurns = 0;
    recipes.start(knife, now.water);
    for (int row = 0; row < Recipes.ROWS; row++) {
      if (row > 0) recipes.goOn();
      Knife ground = recipes.ground();
      if (ground.sharp < x || ground.kind != knife.kind) continue;
      int steel = knife.steel - ground.steel;
      int turns = recipes.turns();
      if (leastSteel < 0 || steel < leastSteel || steel == leastSteel && turns < fewestTurns) {
        leastSteel = steel;
        fewestTurns = turns;
        recipes.choose();
      }
    }
    return leastSteel;
  }

  /** How many recipes lead from x and steel to how the knife is now; the first of them is chosen. */
  private int waysFrom(Knife knife, int x, int steel) {
    trial.copyFrom(knife);
    trial.sharp = x;
    trial.steel = steel;
    trial.heat = 0;
    int ways = 0;
    recipes.start(trial, now.water);
    for (int row = 0; row < Recipes.ROWS; row++) {
      if (row > 0) recipes.goOn();
      Knife ground = recipes.ground();
      if (ground.sharp != knife.sharp || ground.steel != knife.steel) continue;
      if (ways == 0) recipes.choose();
      ways++;
    }
    return ways;
  }

  private static boolean isWithin(int v, int least, int most) {
    return v >= least && v <= most;
  }

  private static int held(int v, int least, int most) {
    return Math.max(least, Math.min(most, v));
  }

  private static boolean isNewKnife(int km, int house, int cu) {
    boolean isUsed = cu >= 0 && cu / 10 <= 9 && cu % 10 <= 3;
    return isUsed && isWithin(km, 0, MOST_KM) && isWithin(house, 0, HOUSES - 1);
  }

  private static boolean isStone(int stone) {
    return isWithin(stone, 0, STONES - 1);
  }

  private static boolean isUse(int use) {
    return use == WEARS || use == BRINGS;
  }

  private static boolean isAhead(int n) {
    return isWithin(n, 0, MOST_DAYS);
  }

  private static boolean isSheet(int sheet) {
    return isWithin(sheet, 0, SHEETS - 1);
  }

  private static boolean isBits(int bits) {
    return bits == 0 || bits == 8 || bits == 16 || bits == 32;
  }

  /** Whether a kind is the wanted one, or stands under it. */
  private static boolean isOfKind(int kind, int wanted) {
    int above = kind;
    for (int i = 0; i < KIND_ABOVE.length && isWithin(above, EDGE, WORN); i++) {
      if (above == wanted) return true;
      above = KIND_ABOVE[above];
    }
    return false;
  }

  /** A knife: its edge, what it is used for, and what the stones have made of it. */
  private static final class Knife {
    int kind = EDGE;
    int m = 0;
    int house = 0;
    int sharp = 60;
    int steel = 200;
    int heat = 0;
    int cuts = 0;
    int use = 0;
    int ground = 0;

    void begin(int km, int itsHouse, int cu) {
      setEdge(km);
      house = itsHouse;
      sharp = 60;
      steel = 200;
      heat = 0;
      cuts = cu / 10;
      use = cu % 10;
      ground = 0;
    }

    void setEdge(int km) {
      kind = km / 10;
      m = km % 10;
    }

    void copyFrom(Knife other) {
      kind = other.kind;
      m = other.m;
      house = other.house;
      sharp = other.sharp;
      steel = other.steel;
      heat = other.heat;
      cuts = other.cuts;
      use = other.use;
      ground = other.ground;
    }

    int part(int what) {
      switch (what) {
        case 0: return kind;
        case 1: return m;
        case 2: return house;
        case 3: return sharp;
        case 4: return steel;
        case 5: return heat;
        case 6: return cuts;
        case 7: return use;
        default: return ground;
      }
    }

    void setPart(int what, int v) {
      switch (what) {
        case 2: house = v; break;
        case 3: sharp = v; break;
        case 4: steel = v; break;
        case 5: heat = v; break;
        case 6: cuts = v; break;
        default: use = v; break;
      }
    }

    /** How much duller a cut makes it, but for what the text adds. */
    int edgeDulls() {
      int blunt = sharp >= 20 ? 1 : 0;
      switch (kind) {
        case KEEN: return 2 * (1 + use);
        case COARSE: return use;
        case BLUNT: return blunt;
        case BURNT: return 2 * (1 + use) + m;
        case NICKED: return use + m / 2;
        case WORN: return 2 * blunt;
        default: return 1 + use;
      }
    }

    int gainsOn(int stone) {
      int edge = 8 - 2 * stone;
      int coarse = stone == 0 ? edge + 1 : edge;
      switch (kind) {
        case COARSE: return coarse;
        case BLUNT: return edge - 1;
        case BURNT: return edge / 2;
        case NICKED: return stone <= 1 ? coarse : 0;
        case WORN: return 1;
        default: return edge;
      }
    }

    void grind(int stone, int turns, int water) {
      for (int i = 0; i < turns; i++) {
        rub(stone, water);
        settle();
      }
    }

    /** The first half of a turn: the edge keeps its kind even if steel or heat forbid it. */
    void rub(int stone, int water) {
      int sharpest = stone >= 0 && stone < SHARPEST_ON.length ? SHARPEST_ON[stone] : 0;
      sharp = Math.min(sharp + gainsOn(stone), sharpest);
      steel = Math.max(steel - (3 - stone), 0);
      heat = Math.max(0, Math.min(99, heat + 9 - 2 * stone - water));
    }

    /** The second half of a turn: what steel and heat make of the edge. */
    private void settle() {
      if (steel == 0) {
        kind = WORN;
      } else if (heat >= HOT) {
        kind = BURNT;
        heat = 0;
      }
    }
  }

  /** All that an image keeps: the knives, the one who comes, the day, the texts, what was fed and told. */
  private static final class Street {
    final Knife[] owned = new Knife[MOST_KNIVES];
    int size = 0;
    int day = 0;
    int purse = 0;
    int water = 4;
    int price = 4;
    int weeks = 3;
    final int[] recipe = {1, 1, 1, 1};
    final Text wears = new Text();
    final Text brings = new Text();
    final int[] tape = new int[TAPE_BYTES];
    int taped = 0;
    final int[] numbers = new int[MOST_WAITING];
    int waiting = 0;
    int z = 1;
    /** How many knives were brought in this visit, by house; one place more at each end of the row. */
    final int[] broughtFrom = new int[HOUSES + 2];

    Street() {
      for (int i = 0; i < owned.length; i++) {
        owned[i] = new Knife();
      }
    }

    void copyFrom(Street other) {
      for (int i = 0; i < owned.length; i++) {
        owned[i].copyFrom(other.owned[i]);
      }
      size = other.size;
      day = other.day;
      purse = other.purse;
      water = other.water;
      price = other.price;
      weeks = other.weeks;
      System.arraycopy(other.recipe, 0, recipe, 0, STONES);
      wears.copyFrom(other.wears);
      brings.copyFrom(other.brings);
      System.arraycopy(other.tape, 0, tape, 0, TAPE_BYTES);
      taped = other.taped;
      System.arraycopy(other.numbers, 0, numbers, 0, MOST_WAITING);
      waiting = other.waiting;
      z = other.z;
    }

    boolean isFull() {
      return size >= MOST_KNIVES;
    }

    int addKnife(int km, int house, int cu) {
      owned[size].begin(km, house, cu);
      size++;
      return size - 1;
    }

    int partOf(Knife knife, int what) {
      return what == DULLS ? dullsOf(knife) : knife.part(what);
    }

    /** Sets what set() counts as what; gives what it was. */
    int exchange(int what, int v) {
      int was;
      switch (what) {
        case WATER: was = water; water = v; break;
        case PRICE: was = price; price = v; break;
        case WEEKS: was = weeks; weeks = v; break;
        default:
          if (!isStone(what)) return 0;
          was = recipe[what];
          recipe[what] = v;
      }
      return was;
    }

    int wearsGives(int use, int sharp, int steel, int m) {
      return held(wears.workOut(use, sharp, steel, m), -9, 9);
    }

    int bringsGives(int blunt, int neighbours, int asked, int house) {
      if (brings.isMissing()) return blunt + 10 * neighbours - 5 * asked - 30;
      return brings.workOut(blunt, neighbours, asked, house);
    }

    int dullsOf(Knife knife) {
      int text = wearsGives(knife.use, knife.sharp, knife.steel, knife.m);
      return held(knife.edgeDulls() + text, 0, 99);
    }

    /** A visit: how many knives were brought. */
    int ring() {
      int brought = 0;
      for (int i = 0; i < broughtFrom.length; i++) {
        broughtFrom[i] = 0;
      }
      for (int i = 0; i < size && i < owned.length; i++) {
        Knife knife = owned[i];
        int place = held(knife.house, 0, HOUSES - 1) + 1;
        int neighbours = broughtFrom[place - 1] + broughtFrom[place + 1];
        if (knife.kind == WORN || bringsGives(99 - knife.sharp, neighbours, price, knife.house) <= 0) continue;
        grindByRecipe(knife);
        purse = Math.min(purse + price, MOST_PURSE);
        broughtFrom[place]++;
        brought++;
      }
      return brought;
    }

    private void grindByRecipe(Knife knife) {
      for (int stone = 0; stone < recipe.length; stone++) {
        knife.grind(stone, recipe[stone], water);
      }
      knife.ground = Math.min(knife.ground + 1, MOST_GROUND);
    }

    /** So many days go by; loosely: by draws some knives cut twice as much. */
    void pass(int n, boolean loosely) {
      for (int i = 0; i < n; i++) {
        if (weeks > 0 && day % (7 * weeks) == 0) ring();
        useAll(loosely);
        day++;
      }
    }

    private void useAll(boolean loosely) {
      for (int i = 0; i < size && i < owned.length; i++) {
        Knife knife = owned[i];
        boolean isTwice = loosely && draw() % 4 == 0;
        int cuts = isTwice ? 2 * knife.cuts : knife.cuts;
        knife.heat = 0;
        // Cuts never sharpen: what is not cut with, or can't get duller, needs no law worked out.
        if (cuts == 0 || knife.sharp == 0) continue;
        knife.sharp = Math.max(knife.sharp - cuts * dullsOf(knife), 0);
      }
    }

    private int draw() {
      z = z * 1103515245 + 12345;
      return z >>> 8;
    }

    int steelOfAll() {
      int sum = 0;
      for (int i = 0; i < size && i < owned.length; i++) {
        sum += owned[i].steel;
      }
      return sum;
    }

    int groundOfAll() {
      int sum = 0;
      for (int i = 0; i < size && i < owned.length; i++) {
        sum += owned[i].ground;
      }
      return sum;
    }
  }

  /** A text as steps: a number or a name comes on top of a stack, an operator takes its operands from there. */
  private static final class Text {
    static final int NAME = 10000;

    private final int[] steps = new int[TAPE_BYTES];
    private int size = 0;
    private final int[] stack = new int[TAPE_BYTES];

    boolean isMissing() {
      return size == 0;
    }

    void clear() {
      size = 0;
    }

    void copyFrom(Text other) {
      size = other.size;
      System.arraycopy(other.steps, 0, steps, 0, TAPE_BYTES);
    }

    /** One more step: a number below NAME, NAME and which name it is, or an operator's sign, negated. */
    void add(int step) {
      if (size >= steps.length) return;
      steps[size] = step;
      size++;
    }

    void addDigit(int digit) {
      if (!isWithin(size, 1, steps.length)) return;
      steps[size - 1] = steps[size - 1] * 10 + digit;
    }

    int workOut(int a, int b, int c, int d) {
      int top = -1;
      for (int i = 0; i < size && i < steps.length; i++) {
        int step = steps[i];
        int operands = step >= 0 ? 0 : step == -'!' ? 1 : 2;
        int place = top + 1 - operands;
        if (place < 0 || place + 1 >= stack.length) return 0;
        if (operands == 0) {
          stack[place] = step < NAME ? step : named(step - NAME, a, b, c, d);
        } else if (operands == 1) {
          stack[place] = stack[place] == 0 ? 1 : 0;
        } else {
          stack[place] = combined(-step, stack[place], stack[place + 1]);
        }
        top = place;
      }
      return top == 0 ? stack[0] : 0;
    }

    private static int named(int name, int a, int b, int c, int d) {
      switch (name) {
        case 0: return a;
        case 1: return b;
        case 2: return c;
        default: return d;
      }
    }

    private static int combined(int sign, int x, int y) {
      switch (sign) {
        case '|': return x != 0 || y != 0 ? 1 : 0;
        case '&': return x != 0 && y != 0 ? 1 : 0;
        case '<': return x < y ? 1 : 0;
        case '=': return x == y ? 1 : 0;
        case '>': return x > y ? 1 : 0;
        case '+': return x + y;
        case '-': return x - y;
        case '*': return x * y;
        case '/': return y == 0 ? 0 : x / y;
        default: return y == 0 ? 0 : x % y;
      }
    }
  }

  /** Reads a text byte by byte; operators wait until both their operands have been read. */
  private static final class Reader {
    private static final int MOST_OPEN = 5;
    private static final int MOST_DIGITS = 4;
    /** How tightly operators bind; what doesn't bind has rank 0. */
    private static final int LOOSEST = 1;
    private static final int COMPARES = 3;
    private static final int TIGHTEST = 5;
    private static final int NOT = 6;

    final Text text = new Text();
    private String names = NAMES_OF_WEARS;
    private final int[] pending = new int[TAPE_BYTES];
    private int pends = 0;
    private int open = 0;
    private boolean wantsOperand = true;
    private int digitsLeft = 0;

    /** Makes the text of n bytes: -1; or it gives the fault. */
    int read(int[] bytes, int n, String itsNames) {
      text.clear();
      names = itsNames;
      pends = 0;
      open = 0;
      wantsOperand = true;
      digitsLeft = 0;
      for (int i = 0; i < n && i < bytes.length; i++) {
        boolean goesOn = wantsOperand ? takeOperand(bytes[i]) : takeBehindOperand(bytes[i]);
        if (!goesOn) return i;
      }
      settle(LOOSEST);
      return wantsOperand || pends > 0 ? n : -1;
    }

    private boolean takeOperand(int sign) {
      if (sign == '!' || sign == '(') {
        if (open >= MOST_OPEN) return false;
        open++;
        push(sign);
        return true;
      }
      int name = names.indexOf((char) sign);
      if (!isDigit(sign) && name < 0) return false;
      text.add(isDigit(sign) ? sign - '0' : Text.NAME + name);
      digitsLeft = isDigit(sign) ? MOST_DIGITS - 1 : 0;
      wantsOperand = false;
      return true;
    }

    private boolean takeBehindOperand(int sign) {
      if (isDigit(sign)) return takeDigit(sign - '0');
      digitsLeft = 0;
      if (sign == ')') return takeClosing();
      int rank = rankOf(sign);
      if (!isWithin(rank, LOOSEST, TIGHTEST)) return false;
      // One that compares does not go on behind another: what stands ahead is left pending to see it.
      settle(rank == COMPARES ? rank + 1 : rank);
      if (rank == COMPARES && rankOfPending() == COMPARES) return false;
      push(sign);
      wantsOperand = true;
      return true;
    }

    private boolean takeDigit(int digit) {
      if (digitsLeft == 0) return false;
      text.addDigit(digit);
      digitsLeft--;
      return true;
    }

    private boolean takeClosing() {
      settle(LOOSEST);
      if (pends == 0) return false;
      pends--;
      open--;
      return true;
    }

    /** What is pending and binds as tightly as this rank, or more so, has both its operands. */
    private void settle(int rank) {
      while (pends > 0 && rankOfPending() >= rank) {
        pends--;
        int sign = pending[pends];
        if (sign == '!') open--;
        text.add(-sign);
      }
    }

    private void push(int sign) {
      if (pends >= pending.length) return;
      pending[pends] = sign;
      pends++;
    }

    private int rankOfPending() {
      return isWithin(pends, 1, pending.length) ? rankOf(pending[pends - 1]) : 0;
    }

    private static int rankOf(int sign) {
      switch (sign) {
        case '|': return LOOSEST;
        case '&': return 2;
        case '<':
        case '=':
        case '>': return COMPARES;
        case '+':
        case '-': return 4;
        case '*':
        case '/':
        case '%': return TIGHTEST;
        case '!': return NOT;
        default: return 0;
      }
    }

    private static boolean isDigit(int sign) {
      return sign >= '0' && sign <= '9';
    }
  }

  /** All recipes of few turns, one behind the other as rows, each tried on a knife. */
  private static final class Recipes {
    static final int ROWS = 625;
    private static final int MOST = 4;

    private final int[] row = new int[STONES];
    final int[] chosen = new int[STONES];
    /** By stone: the knife behind the row's turns on the stones up to that one. */
    private final Knife[] behind = new Knife[STONES];
    private int water = 0;

    Recipes() {
      for (int i = 0; i < behind.length; i++) {
        behind[i] = new Knife();
      }
    }

    void start(Knife knife, int itsWater) {
      water = itsWater;
      for (int i = 0; i < STONES; i++) {
        row[i] = 0;
        chosen[i] = 0;
        behind[i].copyFrom(knife);
      }
    }

    /** On to the next row: only the stones behind the one with a turn more are begun again. */
    void goOn() {
      int stone = STONES - 1;
      while (stone > 0 && row[stone] == MOST) {
        row[stone] = 0;
        stone--;
      }
      row[stone]++;
      behind[stone].grind(stone, 1, water);
      for (int i = stone + 1; i < STONES; i++) {
        behind[i].copyFrom(behind[stone]);
      }
    }

    Knife ground() {
      return behind[STONES - 1];
    }

    int turns() {
      return row[0] + row[1] + row[2] + row[3];
    }

    void choose() {
      System.arraycopy(row, 0, chosen, 0, STONES);
    }
  }

  /** Speaks for a knife by bodies, and keeps which of them began. */
  private static final class Voice {
    static final int ACTS = 4;
    private static final int CUTS = 0;
    private static final int RINGS = 1;
    private static final int GRINDS = 2;
    /** By kind, the body of each act: its own, or that of the next kind above that has one. */
    private static final int[] BODIES = {
      10, 11, 12, 13,
      10, 20, 12, 13,
      30, 11, 12, 13,
      10, 11, 40, 13,
      10, 50, 12, 13,
      30, 11, 12, 60,
      10, 11, 70, 71
    };
    private static final int DEEPEST = 40;

    final int[] bodies = new int[MOST_TRACED];
    int traced = 0;
    private int kind = EDGE;
    private int m = 0;
    private int name = 0;

    int speak(int number, Knife knife, int act, int x) {
      traced = 0;
      kind = knife.kind;
      m = knife.m;
      name = number;
      return body(bodyOf(act), x, 0);
    }

    private int bodyOf(int act) {
      int place = kind * ACTS + act;
      return isWithin(place, 0, BODIES.length - 1) ? BODIES[place] : 0;
    }

    /** A body as the document numbers it; what super is to a body is told by its number, not by the kind. */
    private int body(int number, int x, int depth) {
      if (depth > DEEPEST) return 0;
      begin(number);
      int next = depth + 1;
      switch (number) {
        case 10: return x + name;
        case 11: return body(bodyOf(CUTS), x, next) * 2;
        case 12: return x - m;
        case 13: return body(bodyOf(RINGS), x, next) ^ body(bodyOf(GRINDS), x, next);
        case 20: return body(11, x, next) - body(bodyOf(GRINDS), 1, next);
        case 30: return body(10, x, next) * 3;
        case 40: return -body(12, x, next);
        case 50: return body(20, x + 1, next);
        case 60: return body(13, x, next) - body(bodyOf(CUTS), 2, next);
        case 70: return body(40, x, next) ^ name;
        case 71: return body(bodyOf(RINGS), x, next) - body(13, x, next);
        default: return 0;
      }
    }

    private void begin(int number) {
      if (traced >= bodies.length) return;
      bodies[traced] = number;
      traced++;
    }
  }

  /** A sheet: a row of numbers of so many bits, or missing (0 bits). */
  private static final class Sheet {
    int bits = 0;
    int size = 0;
    final int[] numbers = new int[MOST_NUMBERS];

    boolean isMissing() {
      return bits == 0;
    }

    void make(int itsBits, int n) {
      bits = itsBits;
      size = n;
      for (int i = 0; i < numbers.length; i++) {
        numbers[i] = 0;
      }
    }

    void write(int i, int v) {
      numbers[i] = bits == 8 ? (byte) v : bits == 16 ? (short) v : v;
    }

    /** Whether n numbers stand there from number i on. */
    boolean has(int i, int n) {
      return i >= 0 && n >= 0 && n <= size && i <= size - n;
    }
  }
}
