import java.util.Random;

/** Runs of drawn calls, each answer held against PlainFountain's; the draws are the same each time. */
public final class RandomRunsTest {
  private static final int RUNS = 3000;
  private static final int CALLS = 512;
  private static final int[] EDGES = {
    Integer.MIN_VALUE, Integer.MAX_VALUE, -2, -1, 0, 1, 7, 8, 9, 20, 21, 40, 41, 60, 99, 100, 160, 161, 1 << 30
  };
  private static final String[] WORDS = {"piece", "person", "cost", "has", "back", "greedy", "best"};
  private static final int[] NUMBERS = {3, 3, 2, 2, 1, 0, 0};

  private final Checks checks;
  private final Random random;
  private final FountainGivesChange x = new FountainGivesChange();
  private final PlainFountain y = new PlainFountain();
  private int calls = 0;

  private RandomRunsTest(Checks checks, long seed) {
    this.checks = checks;
    random = new Random(seed);
  }

  public static void main(String[] args) {
    Checks checks = new Checks();
    for (int run = 0; run < RUNS; run++) {
      checks.about("run " + run);
      new RandomRunsTest(checks, run).run();
    }
    checks.end();
  }

  private void run() {
    while (calls < CALLS) {
      switch (random.nextInt(12)) {
        case 0: shelfCall(); break;
        case 1: case 2: text(); break;
        case 3: tellingCall(); break;
        case 4: case 5: askingCall(); break;
        case 6: case 7: case 8: toldCall(); break;
        case 9: comingToPass(); break;
        default: looking();
      }
    }
  }

  private void due(String call, long got, long want) {
    calls++;
    checks.due("call " + calls + ", " + call, got, want);
  }

  /** Mostly a number below one that is fit, else one of the edges. */
  private int about(int below) {
    return random.nextInt(25) == 0 ? EDGES[random.nextInt(EDGES.length)] : random.nextInt(below);
  }

  private int oneOf(int many) {
    return about(Math.max(many, 1));
  }

  private void shelfCall() {
    int s = about(4);
    int q = about(4);
    int i = random.nextInt(12) - 1;
    int j = random.nextInt(12) - 1;
    int n = random.nextInt(20) == 0 ? about(161) : random.nextInt(8) - 1;
    switch (random.nextInt(7)) {
      case 0: {
        int sort = about(4);
        int length = random.nextInt(4) == 0 ? about(161) : random.nextInt(12);
        due("row", x.row(s, sort, length), y.row(s, sort, length));
        break;
      }
      case 1: case 2: {
        long v = random.nextLong() >> random.nextInt(64);
        due("set", x.set(s, i, v), y.set(s, i, v));
        break;
      }
      case 3: case 4:
        due("copy", x.copy(s, q, i, j, n), y.copy(s, q, i, j, n));
        break;
      case 5: {
        int piece = random.nextInt(3) == 0 ? -1 : about(9);
        due("show", x.show(s, piece), y.show(s, piece));
        break;
      }
      default: {
        int kind = about(7);
        due("says", x.says(s, kind), y.says(s, kind));
      }
    }
    due("element", x.element(s, i), y.element(s, i));
    due("holds", x.holds(q), y.holds(q));
  }

  private String number(int most) {
    int v = random.nextInt(30) == 0 ? random.nextInt(120) : random.nextInt(most + 1);
    return random.nextInt(15) == 0 && v < 10 ? "0" + v : "" + v;
  }

  private String item() {
    int w = random.nextInt(7);
    int[][] most = {
      {6, 9, 50}, {99, 9, 7}, {7, 60}, {Math.max(0, y.status(0) - 1), Math.max(0, y.status(1) - 1)},
      {Math.max(0, y.status(0) - 1)}, {}, {}
    };
    StringBuilder item = new StringBuilder(WORDS[w]);
    for (int i = 0; i < NUMBERS[w]; i++) {
      int small = random.nextInt(3) == 0 && w < 3 && i != 0 ? Math.min(most[w][i], 8) : most[w][i];
      item.append(' ').append(number(small));
    }
    return item.toString();
  }

  private void spoil(StringBuilder text) {
    String signs = " ;0159abcehiknoprstxyz~";
    for (int many = random.nextInt(3); many > 0 && text.length() > 0; many--) {
      int at = random.nextInt(text.length());
      char sign = signs.charAt(random.nextInt(signs.length()));
      switch (random.nextInt(4)) {
        case 0: text.setLength(at); break;
        case 1: text.setCharAt(at, sign); break;
        case 2: text.insert(at, sign); break;
        default: text.deleteCharAt(at);
      }
    }
  }

  private void text() {
    StringBuilder text = new StringBuilder();
    int many = 1 + random.nextInt(4);
    for (int i = 0; i < many; i++) {
      text.append(i == 0 ? "" : ";").append(item());
    }
    if (random.nextInt(3) == 0) {
      spoil(text);
    }
    // The letters come by set(), but the run's calls are for more than that: they aren't counted.
    int sort = random.nextInt(4);
    x.row(7, sort, text.length());
    y.row(7, sort, text.length());
    for (int i = 0; i < text.length(); i++) {
      long v = text.charAt(i) + (sort == 3 ? (long) random.nextInt(3) << 32 : 0);
      x.set(7, i, v);
      y.set(7, i, v);
    }
    due("square " + text, x.square(7), y.square(7));
    due("fault of " + text, x.fault(), y.fault());
    if (random.nextInt(10) == 0) {
      int s = about(7);
      due("square", x.square(s), y.square(s));
      due("fault", x.fault(), y.fault());
    }
  }

  private void tellingCall() {
    int one = oneOf(y.status(1));
    switch (random.nextInt(7)) {
      case 0: {
        int kind = about(7);
        int a = about(10);
        int base = random.nextInt(3) == 0 ? about(10) : about(51);
        due("piece", x.piece(kind, a, base), y.piece(kind, a, base));
        break;
      }
      case 1: {
        int purse = about(100);
        int luck = about(10);
        int want = random.nextBoolean() ? about(8) : about(2);
        due("person", x.person(purse, luck, want), y.person(purse, luck, want));
        break;
      }
      case 2: {
        int wish = about(8);
        int v = about(61);
        due("cost", x.cost(wish, v), y.cost(wish, v));
        break;
      }
      case 3: {
        int v = about(2);
        due("rule", x.rule(v), y.rule(v));
        break;
      }
      case 4: {
        int v = random.nextInt();
        due("seed", x.seed(v), y.seed(v));
        break;
      }
      default: {
        int what = about(3);
        int v = what == 0 ? about(100) : about(9);
        due("tell", x.tell(one, what, v), y.tell(one, what, v));
      }
    }
  }

  private void askingCall() {
    int one = oneOf(y.status(1));
    int what = about(2);
    int c = random.nextBoolean() ? about(100) : about(30);
    switch (random.nextInt(random.nextInt(8) == 0 ? 10 : 7)) {
      case 0: {
        int wish = about(8);
        due("price", x.price(one, wish), y.price(one, wish));
        break;
      }
      case 1: case 2:
        due("change " + c + " by " + what, x.change(c, what), y.change(c, what));
        break;
      case 3: case 4:
        due("harm", x.harm(one, c), y.harm(one, c));
        break;
      case 5:
        due("best", x.best(one, what), y.best(one, what));
        break;
      case 6:
        due("rich", x.rich(one), y.rich(one));
        break;
      case 7:
        due("fails", x.fails(what), y.fails(what));
        break;
      case 8:
        due("amounts", x.amounts(what), y.amounts(what));
        break;
      default:
        due("dear", x.dear(what), y.dear(what));
        if (random.nextInt(20) == 0 && (y.status(1) < 5 || random.nextInt(20) == 0)) {
          int i = random.nextInt(9) - 2;
          due("run", x.run(i), y.run(i));
        }
    }
  }

  private int fitFirst(boolean people) {
    return people ? oneOf(y.status(1)) : random.nextBoolean() ? about(100) : about(30);
  }

  private int fitSecond(int kind, int first) {
    boolean there = first >= 0 && first < y.status(1);
    if (random.nextInt(8) == 0) {
      return about(100);
    }
    if (kind == 0) {
      return first >= 0 && first < 100 ? y.change(first, random.nextInt(4) == 0 ? 1 : 0) : -1;
    }
    if (kind == 1) {
      return there ? y.price(first, 3) : 5;
    }
    int price = there ? y.price(first, y.personOf(first, 2)) : 5;
    return random.nextBoolean() ? price : price + random.nextInt(40);
  }

  /** A ROW of twos that is mostly fit for what is asked: 0 change, 1 prices, 2 throws. */
  private void toldCall() {
    int kind = random.nextInt(3);
    int twos = random.nextInt(30) == 0 ? random.nextInt(81) : random.nextInt(5);
    int s = 6;
    int sort = 1 + random.nextInt(3);
    int length = Math.min(2 * twos + random.nextInt(2), 160);
    x.row(s, sort, length);
    y.row(s, sort, length);
    for (int i = 0; i < twos; i++) {
      int first = fitFirst(kind != 0);
      int second = fitSecond(kind, first);
      x.set(s, 2 * i, first);
      y.set(s, 2 * i, first);
      x.set(s, 2 * i + 1, second);
      y.set(s, 2 * i + 1, second);
    }
    int asked = random.nextInt(20) == 0 ? about(8) : s;
    int n = random.nextInt(10) == 0 ? about(45) : random.nextInt(10) == 0 ? twos + 1 : twos;
    int what = about(kind == 1 ? 2 : 3);
    if (kind == 0) {
      due("rules", x.rules(asked, n), y.rules(asked, n));
    } else if (kind == 1) {
      int wish = random.nextInt(10) == 0 ? about(8) : 3;
      due("costs", x.costs(asked, n, wish, what), y.costs(asked, n, wish, what));
    } else {
      due("judge", x.judge(asked, n), y.judge(asked, n));
      due("behind", x.behind(asked, n, what), y.behind(asked, n, what));
      if (random.nextInt(3) == 0) {
        due("done", x.done(asked, n), y.done(asked, n));
      }
    }
  }

  private void comingToPass() {
    int one = oneOf(y.status(1));
    int piece = oneOf(y.status(0));
    switch (random.nextInt(9)) {
      case 0: case 1: case 2: case 3: {
        boolean there = one >= 0 && one < y.status(1);
        int n = there && random.nextInt(4) != 0 ? y.price(one, y.personOf(one, 2)) + random.nextInt(30) : about(100);
        due("cast", x.cast(one, n), y.cast(one, n));
        break;
      }
      case 4: case 5:
        due("back", x.back(piece), y.back(piece));
        break;
      case 6: {
        int n = random.nextInt(5) == 0 ? about(42) : random.nextInt(4);
        due("days", x.days(n), y.days(n));
        break;
      }
      case 7:
        due("image", x.image(), y.image());
        break;
      default:
        if (random.nextInt(3) == 0) {
          due("restore", x.restore(), y.restore());
        }
    }
  }

  private void looking() {
    int piece = oneOf(y.status(0));
    int one = oneOf(y.status(1));
    switch (random.nextInt(6)) {
      case 0: {
        int what = about(6);
        due("pieceOf", x.pieceOf(piece, what), y.pieceOf(piece, what));
        break;
      }
      case 1: {
        int what = about(5);
        due("personOf", x.personOf(one, what), y.personOf(one, what));
        break;
      }
      case 2: {
        int move = about(3);
        int v = random.nextInt() >> random.nextInt(32);
        due("act", x.act(piece, move, v), y.act(piece, move, v));
        for (int i = -1; i < 12; i++) {
          due("trace", x.trace(i), y.trace(i));
        }
        break;
      }
      default:
        for (int what = -1; what < 19; what++) {
          due("status " + what, x.status(what), y.status(what));
        }
    }
  }
}
