/** Each promise of the document with ordinary inputs, its edges, and wrong inputs in their order. */
public final class PromisesTest {
  private static final int NONE = FountainGivesChange.NONE;
  private static final int MIN = Integer.MIN_VALUE;
  private static final int MAX = Integer.MAX_VALUE;
  private static final Checks c = new Checks();

  public static void main(String[] args) {
    aNewObject();
    row();
    set();
    copy();
    element();
    showAndHolds();
    says();
    piece();
    person();
    cost();
    rule();
    tell();
    pieceOf();
    personOf();
    squareTold();
    squareFaults();
    squareRoom();
    squareNothingOrAll();
    squareRefused();
    price();
    changeByBest();
    changeByGreedy();
    harm();
    best();
    fails();
    amounts();
    run();
    rules();
    costs();
    dear();
    rich();
    judge();
    behind();
    done();
    cast();
    back();
    days();
    seed();
    act();
    trace();
    imageAndRestore();
    status();
    c.end();
  }

  // ---- helpers

  private static FountainGivesChange fresh() {
    return new FountainGivesChange();
  }

  private static void write(FountainGivesChange x, int s, int sort, long... values) {
    x.row(s, sort, values.length);
    for (int i = 0; i < values.length; i++) {
      x.set(s, i, values[i]);
    }
  }

  private static int square(FountainGivesChange x, String text) {
    x.row(7, 1, text.length());
    for (int i = 0; i < text.length(); i++) {
      x.set(7, i, text.charAt(i));
    }
    return x.square(7);
  }

  private static FountainGivesChange of(String text) {
    FountainGivesChange x = fresh();
    c.holds("text " + text, square(x, text) > 0);
    return x;
  }

  private static void faultIn(FountainGivesChange x, String text, int place) {
    c.due("square " + text, square(x, text), -6);
    c.due("fault of " + text, x.fault(), place);
  }

  private static void refusals(FountainGivesChange x, int... many) {
    for (int i = 0; i < 7; i++) {
      c.due("refusals -" + (i + 1), x.status(11 + i), i < many.length ? many[i] : 0);
    }
  }

  private static String items(String item, int many) {
    StringBuilder all = new StringBuilder(item);
    for (int i = 1; i < many; i++) {
      all.append(';').append(item);
    }
    return all.toString();
  }

  // ---- promise by promise

  private static void aNewObject() {
    c.about("promise 1");
    FountainGivesChange x = fresh();
    c.due("NONE", FountainGivesChange.NONE, -1);
    for (int what = 0; what < 10; what++) {
      c.due("status " + what, x.status(what), what == 8 ? 1 : 0);
    }
    refusals(x);
    for (int s = 0; s < 8; s++) {
      c.due("holds", x.holds(s), NONE);
    }
    for (int wish = 0; wish < 8; wish++) {
      c.due("cost", x.cost(wish, 60), wish + 5);
    }
    c.due("fault", x.fault(), NONE);
    c.due("trace", x.trace(0), NONE);
    c.due("run", x.run(NONE), 0);
    c.due("amounts", x.amounts(0), 0);
    c.due("change 0", x.change(0, 0), 0);
    c.due("change 1", x.change(1, 0), NONE);
    c.due("rule", x.rule(0), 0);
    c.due("restore", x.restore(), -6);
  }

  private static void row() {
    c.about("promise 2");
    FountainGivesChange x = fresh();
    c.due("row", x.row(0, 0, 0), 1);
    c.due("row", x.row(7, 3, 160), 1);
    c.due("holds", x.holds(7), 103);
    c.due("set", x.set(7, 159, 5), 1);
    c.due("row anew", x.row(7, 3, 160), 1);
    c.due("element", x.element(7, 159), 0);
    c.due("no shelf", x.row(8, 4, -1), -1);
    c.due("no shelf", x.row(-1, 0, 1), -1);
    c.due("below, before the sort", x.row(7, 4, -1), -4);
    c.due("below", x.row(7, 4, MIN), -4);
    c.due("sort, before room", x.row(7, 4, 161), -6);
    c.due("sort", x.row(7, -1, 5), -6);
    c.due("room", x.row(7, 3, 161), -7);
    c.due("room", x.row(7, 0, MAX), -7);
    c.due("still held", x.holds(7), 103);
    refusals(x, 2, 0, 0, 2, 0, 2, 2);
  }

  private static void set() {
    c.about("promise 3");
    FountainGivesChange x = fresh();
    long[] v = {200, 40000, 3000000000L, 1L << 40};
    long[][] kept = {{-56, 64, 0, 0}, {200, -25536, 24064, 0}, {200, 40000, -1294967296, 0}, v};
    for (int sort = 0; sort < 4; sort++) {
      x.row(sort, sort, 4);
      for (int i = 0; i < 4; i++) {
        c.due("set", x.set(sort, i, v[i]), 1);
        c.due("element of sort " + sort, x.element(sort, i), kept[sort][i]);
      }
    }
    c.due("bytes", x.set(0, 0, -129), 1);
    c.due("bytes", x.element(0, 0), 127);
    c.due("longs", x.set(3, 0, Long.MIN_VALUE), 1);
    c.due("longs", x.element(3, 0), Long.MIN_VALUE);
    x.piece(0, 0, 1);
    x.show(4, 0);
    c.due("no shelf", x.set(8, 0, 1), -1);
    c.due("no shelf", x.set(-1, 0, 1), -1);
    c.due("a piece", x.set(4, 99, 1), -2);
    c.due("nothing", x.set(5, 99, 1), -3);
    c.due("beyond", x.set(0, 4, 1), -5);
    c.due("beyond", x.set(0, -1, 1), -5);
    c.due("beyond", x.set(0, MAX, 1), -5);
    refusals(x, 2, 1, 1, 0, 3);
  }

  private static void copy() {
    c.about("promise 4");
    FountainGivesChange x = fresh();
    write(x, 0, 2, 1, 2, 3, 4, 5);
    write(x, 1, 2, 0, 0, 0);
    write(x, 2, 0, 9, 9);
    x.piece(0, 0, 1);
    x.show(3, 0);
    c.due("copy", x.copy(0, 1, 3, 1, 2), 1);
    c.due("came", x.element(1, 0) * 100 + x.element(1, 1) * 10 + x.element(1, 2), 45);
    c.due("onto itself, upward", x.copy(0, 0, 0, 1, 4), 1);
    for (int i = 0; i < 5; i++) {
      c.due("as they were ahead", x.element(0, i), i == 0 ? 1 : i);
    }
    c.due("onto itself, downward", x.copy(0, 0, 1, 0, 4), 1);
    c.due("downward", x.element(0, 0) + 10 * x.element(0, 3) + 100 * x.element(0, 4), 441);
    c.due("none of them, at the end", x.copy(0, 1, 5, 3, 0), 1);
    c.due("no shelf p", x.copy(8, 3, 0, 0, -1), -1);
    c.due("no shelf q", x.copy(3, -1, 0, 0, -1), -1);
    c.due("a piece in p, nothing in q", x.copy(3, 6, 0, 0, -1), -2);
    c.due("a piece in q, nothing in p", x.copy(6, 3, 0, 0, -1), -2);
    c.due("a piece and a row", x.copy(0, 3, 0, 0, -1), -2);
    c.due("two sorts", x.copy(0, 2, 0, 0, -1), -2);
    c.due("nothing in p", x.copy(6, 0, 0, 0, -1), -3);
    c.due("nothing in q", x.copy(0, 6, 0, 0, -1), -3);
    c.due("nothing in both", x.copy(5, 6, 0, 0, -1), -3);
    c.due("below, before beyond", x.copy(0, 1, -1, 9, -1), -4);
    c.due("beyond i", x.copy(0, 1, -1, 0, 1), -5);
    c.due("beyond j", x.copy(0, 1, 0, -1, 1), -5);
    c.due("end of p", x.copy(0, 1, 4, 0, 2), -5);
    c.due("end of q", x.copy(0, 1, 0, 2, 2), -5);
    c.due("none, but behind the end", x.copy(0, 1, 6, 0, 0), -5);
    c.due("great numbers", x.copy(0, 1, 1, 1, MAX), -5);
    c.due("great numbers", x.copy(0, 1, MAX, 0, MAX), -5);
    c.due("great numbers", x.copy(0, 0, MIN, MIN, MAX), -5);
    refusals(x, 2, 4, 3, 1, 8);
    write(x, 4, 3, 1L << 40, -1);
    write(x, 5, 3, 0, 0);
    c.due("longs", x.copy(4, 5, 0, 0, 2), 1);
    c.due("longs stay whole", x.element(5, 0), 1L << 40);
  }

  private static void element() {
    c.about("promise 5");
    FountainGivesChange x = fresh();
    write(x, 0, 3, 7, -8);
    x.piece(0, 0, 1);
    x.show(1, 0);
    c.due("element", x.element(0, 1), -8);
    c.due("no such", x.element(0, 2), 0);
    c.due("no such", x.element(0, -1), 0);
    c.due("a piece", x.element(1, 0), 0);
    c.due("nothing", x.element(2, 0), 0);
    c.due("no shelf", x.element(8, 0), 0);
    c.due("no shelf", x.element(-1, 0), 0);
    write(x, 0, 3);
    c.due("a shorter row", x.element(0, 0), 0);
    refusals(x);
  }

  private static void showAndHolds() {
    c.about("promises 6, 7");
    FountainGivesChange x = of("piece 0 0 5;piece 1 1 5");
    c.due("show", x.show(0, 1), 1);
    c.due("holds", x.holds(0), 1);
    c.due("show over a row", x.row(1, 2, 3) + x.show(1, 0), 2);
    c.due("holds", x.holds(1), 0);
    c.due("element is gone", x.element(1, 0), 0);
    c.due("show none", x.show(1, NONE), 0);
    c.due("holds", x.holds(1), NONE);
    c.due("a row over a piece", x.row(0, 3, 1), 1);
    c.due("holds", x.holds(0), 103);
    c.due("show none over a row", x.show(0, NONE), 0);
    c.due("holds", x.holds(0), NONE);
    c.due("row of nothing", x.row(0, 0, 0), 1);
    c.due("holds", x.holds(0), 100);
    c.due("no piece", x.show(0, 2), -1);
    c.due("no piece", x.show(0, -2), -1);
    c.due("no shelf", x.show(8, 0), -1);
    c.due("no shelf", x.show(-1, NONE), -1);
    c.due("still", x.holds(0), 100);
    c.due("no shelf", x.holds(8), NONE);
    c.due("no shelf", x.holds(-1), NONE);
    refusals(x, 4);
  }

  private static void says() {
    c.about("promise 8");
    FountainGivesChange x = of("piece 0 3 10;piece 1 3 11;piece 2 3 12;piece 3 3 13;piece 4 3 14;piece 5 3 15;piece 6 3 16");
    int[][] due = {
      {10, -2, -2, -2, -2, -2, -2},
      {11, 3, -2, -2, -2, -2, -2},
      {12, -2, 15, -2, -2, -2, -2},
      {13, 6, -2, 6, -2, -2, -2},
      {14, -2, -2, -2, 3, -2, -2},
      {15, -2, 9, -2, -2, 9, -2},
      {16, -2, -2, -2, 3, -2, 3},
    };
    for (int p = 0; p < 7; p++) {
      x.show(0, p);
      for (int kind = 0; kind < 7; kind++) {
        c.due("piece " + p + " as " + kind, x.says(0, kind), due[p][kind]);
      }
    }
    c.due("refused", x.status(12), refused(due));
    x.row(1, 0, 4);
    c.due("no shelf", x.says(8, 0), -1);
    c.due("no kind, of a row", x.says(1, 7), -1);
    c.due("no kind, of nothing", x.says(2, -1), -1);
    c.due("a row", x.says(1, 0), -2);
    c.due("nothing", x.says(2, 0), -3);
    c.due("refused", x.status(11) * 10 + x.status(13), 31);
  }

  private static int refused(int[][] due) {
    int many = 0;
    for (int[] of : due) {
      for (int v : of) {
        many += v == -2 ? 1 : 0;
      }
    }
    return many;
  }

  private static void piece() {
    c.about("promise 9");
    FountainGivesChange x = fresh();
    c.due("no kind, before the rest", x.piece(7, 10, 0), -1);
    c.due("no kind", x.piece(-1, 0, 1), -1);
    c.due("a", x.piece(0, -1, 1), -6);
    c.due("a", x.piece(0, 10, 1), -6);
    c.due("base", x.piece(0, 0, 0), -6);
    c.due("base", x.piece(0, 0, 51), -6);
    c.due("none came", x.status(0), 0);
    for (int i = 0; i < 9; i++) {
      c.due("piece", x.piece(i % 7, i, i + 42), i);
    }
    c.due("no kind, before room", x.piece(7, 0, 1), -1);
    c.due("a, before room", x.piece(0, 10, 1), -6);
    c.due("room", x.piece(0, 0, 1), -7);
    c.due("as it was told", x.pieceOf(8, 0) * 10000 + x.pieceOf(8, 1) * 100 + x.pieceOf(8, 2), 10850);
    refusals(x, 3, 0, 0, 0, 0, 5, 1);
  }

  private static void person() {
    c.about("promise 10");
    FountainGivesChange x = fresh();
    c.due("no wish, before the rest", x.person(100, 10, 8), -1);
    c.due("no wish", x.person(0, 0, -1), -1);
    c.due("purse", x.person(-1, 0, 0), -6);
    c.due("purse", x.person(100, 0, 0), -6);
    c.due("luck", x.person(0, -1, 0), -6);
    c.due("luck", x.person(0, 10, 0), -6);
    for (int i = 0; i < 6; i++) {
      c.due("person", x.person(99 - i, 9 - i, 7 - i), i);
    }
    c.due("no wish, before room", x.person(0, 0, 8), -1);
    c.due("purse, before room", x.person(100, 0, 0), -6);
    c.due("room", x.person(0, 0, 0), -7);
    c.due("as told", x.personOf(5, 0) * 100 + x.personOf(5, 1) * 10 + x.personOf(5, 2), 9442);
    c.due("granted, pieces", x.personOf(5, 3) + x.personOf(5, 4), 0);
    refusals(x, 3, 0, 0, 0, 0, 5, 1);
  }

  private static void cost() {
    c.about("promise 11");
    FountainGivesChange x = fresh();
    c.due("cost", x.cost(7, 60), 12);
    c.due("cost", x.cost(7, 1), 60);
    c.due("no wish, before v", x.cost(8, 0), -1);
    c.due("no wish", x.cost(-1, 5), -1);
    c.due("v", x.cost(7, 0), -6);
    c.due("v", x.cost(7, 61), -6);
    c.due("still", x.cost(7, 2), 1);
    refusals(x, 2, 0, 0, 0, 0, 2);
  }

  private static void rule() {
    c.about("promise 12");
    FountainGivesChange x = fresh();
    c.due("rule", x.rule(1), 0);
    c.due("rule", x.rule(1), 1);
    c.due("v", x.rule(2), -6);
    c.due("v", x.rule(-1), -6);
    c.due("still", x.status(4), 1);
    c.due("rule", x.rule(0), 1);
    c.due("rule", x.status(4), 0);
    refusals(x, 0, 0, 0, 0, 0, 2);
  }

  private static void tell() {
    c.about("promise 13");
    FountainGivesChange x = of("person 5 6 7");
    c.due("purse", x.tell(0, 0, 99), 5);
    c.due("luck", x.tell(0, 1, 9), 6);
    c.due("want", x.tell(0, 2, 0), 7);
    c.due("purse", x.tell(0, 0, 0), 99);
    c.due("luck", x.tell(0, 1, 0), 9);
    c.due("want", x.tell(0, 2, 7), 0);
    c.due("nobody", x.tell(1, 3, -1), -1);
    c.due("nobody", x.tell(-1, 0, 0), -1);
    c.due("no wish", x.tell(0, 2, 8), -1);
    c.due("no wish", x.tell(0, 2, -1), -1);
    c.due("what", x.tell(0, 3, 0), -6);
    c.due("what", x.tell(0, -1, 0), -6);
    c.due("purse", x.tell(0, 0, 100), -6);
    c.due("purse", x.tell(0, 0, -1), -6);
    c.due("luck", x.tell(0, 1, 10), -6);
    c.due("luck", x.tell(0, 1, -1), -6);
    c.due("still", x.personOf(0, 0) + x.personOf(0, 1) + x.personOf(0, 2), 7);
    refusals(x, 4, 0, 0, 0, 0, 6);
  }

  private static void pieceOf() {
    c.about("promise 14");
    FountainGivesChange x = of("person 0 0 0;person 0 0 0;"
        + "piece 0 9 50;piece 1 9 49;piece 2 9 50;piece 3 9 50;piece 3 9 9;piece 4 9 50;piece 5 8 49;piece 6 9 50;piece 5 9 49");
    int[] worth = {50, 25, 59, 16, 1, 1, 29, 10, 29};
    int[] harm = {0, 9, 0, 18, 18, 1, 0, 0, 0};
    for (int p = 0; p < 9; p++) {
      c.due("worth of " + p, x.pieceOf(p, 3), worth[p]);
      c.due("harm of " + p, x.pieceOf(p, 4), harm[p]);
      c.due("place of " + p, x.pieceOf(p, 5), 99);
    }
    c.due("kind", x.pieceOf(7, 0), 6);
    c.due("a", x.pieceOf(6, 1), 8);
    c.due("base", x.pieceOf(6, 2), 49);
    c.due("has", square(x, "has 3 1"), 1);
    c.due("place", x.pieceOf(3, 5), 1);
    c.due("no piece", x.pieceOf(9, 0), -5);
    c.due("no piece", x.pieceOf(-1, 0), -5);
    c.due("what", x.pieceOf(0, 6), -5);
    c.due("what", x.pieceOf(0, -1), -5);
    refusals(x, 0, 0, 0, 0, 4);
    FountainGivesChange y = of("piece 1 9 50;piece 5 9 50;piece 3 0 1;piece 5 0 1;piece 3 2 5");
    c.due("half, upward", y.pieceOf(0, 3), 25);
    c.due("half, upward", y.pieceOf(1, 3), 30);
    c.due("one at least", y.pieceOf(2, 3), 1);
    c.due("half, upward", y.pieceOf(3, 3), 1);
    c.due("less a", y.pieceOf(4, 3), 1);
  }

  private static void personOf() {
    c.about("promise 15");
    FountainGivesChange x = of("person 98 1 2;person 0 0 0;piece 0 0 1;piece 0 0 2;piece 0 0 3;has 0 0;has 2 0;has 1 1");
    int[] due = {98, 1, 2, 0, 5};
    for (int what = 0; what < 5; what++) {
      c.due("what " + what, x.personOf(0, what), due[what]);
    }
    c.due("pieces", x.personOf(1, 4), 2);
    c.due("nobody", x.personOf(2, 0), -5);
    c.due("nobody", x.personOf(-1, 0), -5);
    c.due("what", x.personOf(0, 5), -5);
    c.due("what", x.personOf(0, -1), -5);
    refusals(x, 0, 0, 0, 0, 4);
  }

  private static void squareTold() {
    c.about("promise 16");
    FountainGivesChange x = fresh();
    c.due("items", square(x, "greedy"), 1);
    c.due("rule", x.status(4), 1);
    c.due("items", square(x, "best;greedy;best"), 3);
    c.due("rule", x.status(4), 0);
    c.due("items", square(x, "piece 06 09 50;person 99 9 7;cost 07 60;has 0 0;cost 0 1"), 5);
    c.due("kind", x.pieceOf(0, 0), 6);
    c.due("base", x.pieceOf(0, 2), 50);
    c.due("has", x.pieceOf(0, 5), 0);
    c.due("cost", x.cost(7, 5), 60);
    c.due("cost", x.cost(0, 5), 1);
    c.due("over what there is", square(x, "back 0;piece 0 0 5;has 1 0;person 0 0 0;has 0 1"), 5);
    c.due("place", x.pieceOf(0, 5), 1);
    c.due("place", x.pieceOf(1, 5), 0);
    c.due("purse stays", x.personOf(0, 0), 99);
    c.due("most items", square(x, items("best", 32)), 32);
    c.due("fault", x.fault(), NONE);
    refusals(x);
  }

  private static void squareFaults() {
    c.about("promises 16, 17");
    FountainGivesChange x = fresh();
    faultIn(x, "", 0);
    faultIn(x, " best", 0);
    faultIn(x, "x", 0);
    faultIn(x, ";best", 0);
    faultIn(x, "best;", 5);
    faultIn(x, "best;;best", 5);
    faultIn(x, "best ;best", 4);
    faultIn(x, "best; best", 5);
    faultIn(x, "bestgreedy", 4);
    faultIn(x, "bestbest", 4);
    faultIn(x, "bestbesx", 4);
    faultIn(x, "Best", 0);
    faultIn(x, "b", 1);
    faultIn(x, "bx", 1);
    faultIn(x, "be", 2);
    faultIn(x, "ba", 2);
    faultIn(x, "bak", 2);
    faultIn(x, "bec", 2);
    faultIn(x, "p", 1);
    faultIn(x, "pi", 2);
    faultIn(x, "pe", 2);
    faultIn(x, "pers", 4);
    faultIn(x, "pierce", 3);
    faultIn(x, "persno", 4);
    faultIn(x, "coat", 2);
    faultIn(x, "hat", 2);
    faultIn(x, "gready", 3);
    faultIn(x, "piece", 5);
    faultIn(x, "piece ", 6);
    faultIn(x, "piece0 0 1", 5);
    faultIn(x, "piece  0 0 1", 6);
    faultIn(x, "piece -1 0 1", 6);
    faultIn(x, "piece 7", 6);
    faultIn(x, "piece 10 0 1", 6);
    faultIn(x, "piece 0", 7);
    faultIn(x, "piece 0;best", 7);
    faultIn(x, "piece 0 ", 8);
    faultIn(x, "piece 0 10 1", 8);
    faultIn(x, "piece 0 9 0", 10);
    faultIn(x, "piece 0 9 51", 10);
    faultIn(x, "piece 0 9 00;", 10);
    faultIn(x, "piece 0 9 501", 12);
    faultIn(x, "piece 0 9 511", 10);
    faultIn(x, "piece 000 9 1", 8);
    faultIn(x, "piece 0 9 5 ", 11);
    faultIn(x, "piece 0 9 5 1", 11);
    faultIn(x, "piece 0 9 5;x", 12);
    faultIn(x, "person 100 0 0", 9);
    faultIn(x, "person 99 10 0", 10);
    faultIn(x, "person 99 9 8", 12);
    faultIn(x, "cost 8 1", 5);
    faultIn(x, "cost 7 0", 7);
    faultIn(x, "cost 7 61", 7);
    faultIn(x, "cost 7 61x", 7);
    faultIn(x, "cost 7 60x", 9);
    faultIn(x, "has 0 0", 4);
    faultIn(x, "piece 0 0 1;has 0 0", 18);
    faultIn(x, "person 0 0 0;has 0 0", 17);
    faultIn(x, "piece 0 0 1;person 0 0 0;has 0 1", 31);
    faultIn(x, "piece 0 0 1;person 0 0 0;has 1 0", 29);
    faultIn(x, "piece 0 0 1;person 0 0 0;has 0 0;has 0 0", 37);
    faultIn(x, "piece 0 0 1;back 0", 17);
    faultIn(x, "piece 0 0 1;person 0 0 0;has 0 0;back 0;back 0", 45);
    faultIn(x, "back 0", 5);
    faultIn(x, "back x", 5);
    c.due("after a good one", square(x, "best"), 1);
    c.due("there was none", x.fault(), NONE);
  }

  private static void squareRoom() {
    c.about("promise 16, room");
    FountainGivesChange x = fresh();
    faultIn(x, items("piece 0 0 1", 10), 108);
    faultIn(x, items("person 0 0 0", 7), 78);
    c.due("nine", square(x, items("piece 0 0 1", 9)), 9);
    c.due("six", square(x, items("person 0 0 0", 6)), 6);
    faultIn(x, "piece 0 0 1", 0);
    faultIn(x, "piece", 0);
    faultIn(x, "piecex", 0);
    faultIn(x, "piec", 4);
    faultIn(x, "piecx", 4);
    faultIn(x, "best;piec", 9);
    faultIn(x, "best;piece", 5);
    faultIn(x, "person 0 0 0", 0);
    faultIn(x, "person", 0);
    faultIn(x, "perso", 5);
    faultIn(x, "best;person 100", 5);
    c.due("others have room", square(x, "cost 0 1;has 8 5;back 8"), 3);
  }

  private static void squareNothingOrAll() {
    c.about("promise 16, all or nothing");
    FountainGivesChange x = of("piece 0 0 5;person 9 0 0;has 0 0");
    faultIn(x, "greedy;piece 0 0 1;person 1 1 1;cost 0 9;back 0;x", 48);
    c.due("rule", x.status(4), 0);
    c.due("pieces", x.status(0), 1);
    c.due("people", x.status(1), 1);
    c.due("has", x.pieceOf(0, 5), 0);
    c.due("cost", x.cost(0, 9), 5);
  }

  private static void squareRefused() {
    c.about("promises 16, 17, refused");
    FountainGivesChange x = of("piece 0 0 5");
    faultIn(x, "bex", 2);
    x.show(0, 0);
    c.due("no shelf", x.square(8), -1);
    c.due("no shelf", x.square(-1), -1);
    c.due("a piece", x.square(0), -2);
    c.due("nothing", x.square(1), -3);
    c.due("the fault stays", x.fault(), 2);
    refusals(x, 2, 1, 1, 0, 0, 1);
    write(x, 2, 3, (1L << 32) + 'b', 'e' - (1L << 40), 's', 't');
    c.due("longs by their lowest bits", x.square(2), 1);
    c.due("fault", x.fault(), NONE);
    write(x, 3, 0, 'b', 'e', 's', 't' + 256);
    c.due("bytes", x.square(3), 1);
    write(x, 3, 1, 'b', 'e', 's', 't' + 256);
    c.due("shorts", x.square(3), -6);
    c.due("fault", x.fault(), 3);
  }

  private static void price() {
    c.about("promise 18");
    FountainGivesChange x = of("person 9 0 1;person 9 2 1;person 9 9 1;person 9 9 0");
    c.due("two others", x.price(0, 1), 10);
    c.due("luck", x.price(1, 1), 8);
    c.due("luck", x.price(2, 1), 1);
    c.due("one who wants another", x.price(3, 1), 3);
    c.due("one other", x.price(0, 0), 7);
    c.due("one at least", x.price(3, 0), 1);
    c.due("nobody else", x.price(0, 7), 12);
    c.due("nobody", x.price(4, 0), -1);
    c.due("nobody", x.price(-1, 0), -1);
    c.due("no wish", x.price(0, 8), -1);
    c.due("no wish", x.price(0, -1), -1);
    refusals(x, 4);
  }

  private static void changeByBest() {
    c.about("promise 19, best");
    FountainGivesChange x = of("piece 0 0 3;piece 0 0 4;piece 0 0 7;piece 1 2 14;piece 0 0 3;person 0 0 0");
    c.due("none", x.change(0, 0), 0);
    c.due("fewest, then harm", x.change(7, 0), 4);
    c.due("least as bits", x.change(3, 0), 1);
    c.due("two", x.change(6, 0), 17);
    c.due("harm before bits", x.change(10, 0), 5);
    c.due("with harm", x.change(14, 0), 12);
    c.due("all", x.change(24, 0), 31);
    c.due("there is none", x.change(25, 0), NONE);
    c.due("there is none", x.change(99, 0), NONE);
    c.due("one goes", square(x, "has 2 0"), 1);
    c.due("fewest before harm", x.change(7, 0), 8);
    FountainGivesChange y = of("piece 1 9 10;piece 0 0 2;piece 0 0 3;piece 4 0 9;piece 2 2 2");
    c.due("fewest, though harm", y.change(5, 0), 1);
    c.due("least harm of two pieces", y.change(6, 0), 18);
    c.due("what, before c", y.change(100, 2), -15);
    c.due("what", y.change(0, -1), -15);
    c.due("c", y.change(100, 0), -16);
    c.due("c", y.change(-1, 1), -16);
    refusals(y, 0, 0, 0, 0, 2, 2);
  }

  private static void changeByGreedy() {
    c.about("promise 19, greedy");
    FountainGivesChange x = of("piece 0 0 1;piece 0 0 3;piece 0 0 4;piece 0 0 3;piece 0 0 4");
    c.due("none", x.change(0, 1), 0);
    c.due("the first of several", x.change(3, 1), 2);
    c.due("both", x.change(8, 1), 20);
    c.due("fails", x.change(6, 1), NONE);
    c.due("best doesn't", x.change(6, 0), 10);
    c.due("more pieces", x.change(5, 1), 5);
    c.due("all", x.change(15, 1), 31);
    c.due("beyond all", x.change(16, 1), NONE);
    FountainGivesChange y = of("piece 1 9 10;piece 0 0 5;person 0 0 0");
    c.due("harm is nothing to the greedy", y.change(5, 1), 1);
    c.due("best", y.change(5, 0), 2);
    c.due("goes", square(y, "has 0 0"), 1);
    c.due("only what is in the basin", y.change(5, 1), 2);
  }

  private static void harm() {
    c.about("promise 20");
    FountainGivesChange x = of("piece 0 0 4;piece 1 3 8;piece 4 0 1;person 20 0 0");
    c.due("no change", x.harm(0, 5), 0);
    c.due("a cough or a piece", x.harm(0, 9), 0);
    c.due("a button", x.harm(0, 6), 1);
    c.due("two", x.harm(0, 13), 3);
    c.due("all", x.harm(0, 14), 4);
    c.due("no change for it", x.harm(0, 7), NONE);
    c.due("less than the price", x.harm(0, 4), NONE);
    c.due("more than he has", x.harm(0, 21), NONE);
    c.due("nobody", x.harm(1, 100), -11);
    c.due("nobody", x.harm(-1, 0), -11);
    c.due("n", x.harm(0, 100), -16);
    c.due("n", x.harm(0, -1), -16);
    refusals(x, 2, 0, 0, 0, 0, 2);
    FountainGivesChange y = of("piece 0 0 1;piece 0 0 3;piece 0 0 4;piece 0 0 3;person 99 0 0");
    c.due("by best", y.harm(0, 11), 0);
    c.due("greedy", y.rule(1), 0);
    c.due("by greedy", y.harm(0, 11), NONE);
    c.due("by greedy", y.harm(0, 10), 0);
  }

  private static void best() {
    c.about("promise 21");
    FountainGivesChange x = of("piece 0 0 4;person 5 0 0;person 6 0 0;person 60 5 0;person 11 0 7");
    c.due("less than the price", x.best(0, 0), NONE);
    c.due("no harm then", x.best(0, 1), NONE);
    c.due("less", x.best(1, 0), NONE);
    c.due("the price", x.best(2, 0), 4);
    c.due("harm", x.best(2, 1), 0);
    c.due("just not", x.best(3, 0), NONE);
    c.due("just so", x.tell(3, 0, 12) + x.best(3, 0), 23);
    c.due("nobody", x.best(4, 2), -11);
    c.due("nobody", x.best(-1, 0), -11);
    c.due("what", x.best(0, 2), -15);
    c.due("what", x.best(0, -1), -15);
    refusals(x, 2, 0, 0, 0, 2);
  }

  private static void fails() {
    c.about("promise 22");
    FountainGivesChange x = of("piece 0 0 1;piece 0 0 3;piece 0 0 4;piece 0 0 3;piece 0 0 1");
    c.due("waste", x.fails(1), 6);
    c.due("fails", x.fails(0), NONE);
    FountainGivesChange y = of("piece 0 0 1;piece 0 0 3;piece 0 0 4;piece 0 0 3");
    c.due("fails", y.fails(0), 6);
    c.due("waste", y.fails(1), NONE);
    c.due("what", y.fails(2), -15);
    c.due("what", y.fails(-1), -15);
    refusals(y, 0, 0, 0, 0, 2);
    c.due("empty", fresh().fails(0), NONE);
    c.due("empty", fresh().fails(1), NONE);
  }

  private static void amounts() {
    c.about("promise 23");
    FountainGivesChange x = of("piece 0 0 1;piece 0 0 3;piece 0 0 4;piece 0 0 3");
    c.due("best", x.amounts(0), 9);
    c.due("greedy", x.amounts(1), 8);
    c.due("what", x.amounts(2), -5);
    c.due("what", x.amounts(-1), -5);
    refusals(x, 0, 0, 0, 0, 2);
    FountainGivesChange y = of("piece 0 0 50;piece 0 0 49;piece 0 0 48");
    c.due("99 counts, above doesn't", y.amounts(0), 6);
    c.due("so by the greedy", y.amounts(1), 5);
    c.due("none", fresh().amounts(0) + fresh().amounts(1), 0);
  }

  private static void run() {
    c.about("promise 24");
    FountainGivesChange x = of("piece 0 0 4;person 1 0 0;person 60 5 1;person 0 9 2;person 60 0 0");
    c.due("how many", x.run(NONE), 2);
    for (int i = 0; i < 4; i++) {
      c.due("the " + i + "th", x.run(i), i);
    }
    c.due("no such", x.run(4), -5);
    c.due("no such", x.run(-2), -5);
    c.due("nothing is changed", x.personOf(1, 0) + x.status(7), 60);
    refusals(x, 0, 0, 0, 0, 2);
    c.due("all", x.tell(0, 0, 7) + x.tell(2, 0, 1) + x.run(NONE), 5);
  }

  private static void rules() {
    c.about("promise 25");
    FountainGivesChange x = of("piece 0 0 1;piece 0 0 3;piece 0 0 4;piece 0 0 3");
    write(x, 0, 1, 4, 4, 6, 10, 6, -1, 6, 11, 100, 0);
    c.due("none told", x.rules(0, 0), 3);
    c.due("both", x.rules(0, 1), 3);
    c.due("best", x.rules(0, 2), 1);
    c.due("neither any more", x.rules(0, 3), 0);
    write(x, 0, 3, 6, (1L << 33) - 1, 0, 1L << 32);
    c.due("greedy, longs by their lowest bits", x.rules(0, 2), 2);
    write(x, 0, 2, 0, NONE);
    c.due("for 0 there is change", x.rules(0, 1), 0);
    write(x, 0, 2, 11, NONE, 12, NONE);
    c.due("there was none", x.rules(0, 1), 0);
    c.due("there was none, by neither", x.rules(0, 2), 0);
    write(x, 0, 2, 12, NONE, 99, NONE, 100, NONE);
    c.due("there was none", x.rules(0, 2), 3);
    c.due("c", x.rules(0, 3), -6);
    write(x, 0, 2, -1, NONE, 5);
    c.due("c", x.rules(0, 1), -6);
    c.due("half of a two", x.rules(0, 2), -5);
    x.show(1, 0);
    c.due("no shelf", x.rules(8, -1), -1);
    c.due("a piece", x.rules(1, -1), -2);
    c.due("nothing", x.rules(2, -1), -3);
    c.due("below", x.rules(0, -1), -4);
    c.due("fewer", x.rules(0, MAX), -5);
    x.row(0, 0, 160);
    c.due("forty zeros: bits 0 for 0", x.rules(0, 40), 3);
    c.due("above 40", x.rules(0, 41), -6);
    c.due("fewer, before above 40", x.rules(0, 81), -5);
    x.set(0, 158, 100);
    c.due("what is not told doesn't matter", x.rules(0, 40), 3);
    refusals(x, 1, 1, 1, 1, 3, 3);
  }

  private static void costs() {
    c.about("promise 26");
    FountainGivesChange x = of("person 9 0 0;person 9 9 0;person 9 3 1");
    write(x, 0, 0, 1, 1, 2, 2, 0, 4);
    c.due("none told", x.costs(0, 0, 0, 0), 60);
    c.due("none told", x.costs(0, 0, 0, 1), 1);
    c.due("eight have 1", x.costs(0, 1, 0, 0), 8);
    c.due("the least", x.costs(0, 1, 0, 1), 1);
    c.due("he wants another", x.costs(0, 2, 0, 0), 1);
    c.due("so it is 1", x.costs(0, 2, 0, 1), 1);
    c.due("contradicts", x.costs(0, 3, 0, 0), 0);
    c.due("contradicts", x.costs(0, 3, 0, 1), NONE);
    write(x, 0, 3, 0, 62 + (1L << 32));
    c.due("the greatest", x.costs(0, 1, 0, 1), 60);
    c.due("the greatest", x.costs(0, 1, 0, 0), 1);
    c.due("of another wish", x.costs(0, 1, 1, 1), 60);
    c.due("of another wish", x.costs(0, 1, 2, 1), NONE);
    x.piece(0, 0, 1);
    x.show(1, 0);
    c.due("no shelf", x.costs(8, -1, 0, 2), -11);
    c.due("no wish, before the rest", x.costs(2, -1, 8, 2), -11);
    c.due("no wish", x.costs(0, 0, -1, 0), -11);
    c.due("a piece", x.costs(1, -1, 0, 2), -12);
    c.due("nothing", x.costs(2, -1, 0, 2), -13);
    c.due("below", x.costs(0, -1, 0, 2), -14);
    c.due("fewer", x.costs(0, 2, 0, 0), -15);
    c.due("what", x.costs(0, 1, 0, 2), -15);
    c.due("what", x.costs(0, 0, 0, -1), -15);
    x.row(0, 0, 100);
    x.set(0, 0, 3);
    c.due("what, before above 40", x.costs(0, 41, 0, 2), -15);
    c.due("above 40, before one who isn't there", x.costs(0, 41, 0, 0), -16);
    c.due("one who isn't there", x.costs(0, 40, 0, 0), -11);
    x.set(0, 0, -1);
    c.due("one who isn't there", x.costs(0, 1, 0, 0), -11);
    c.due("he isn't told", x.costs(0, 0, 0, 0), 60);
    refusals(x, 5, 1, 1, 1, 4, 1);
  }

  private static void dear() {
    c.about("promise 27");
    c.due("empty", fresh().dear(0), NONE);
    c.due("nobody", fresh().dear(1), NONE);
    FountainGivesChange x = of("piece 0 0 1;piece 0 0 1;piece 0 0 5;person 0 0 5;person 0 0 2;person 0 0 2;person 0 0 5");
    c.due("dear", x.dear(0), 2);
    c.due("the first of several wishes", x.dear(1), 2);
    c.due("more", x.person(0, 0, 5), 4);
    c.due("crowd", x.dear(1), 5);
    c.due("goes", square(x, "has 2 0"), 1);
    c.due("the first of several pieces", x.dear(0), 0);
    c.due("goes", square(x, "has 0 0"), 1);
    c.due("only in the basin", x.dear(0), 1);
    c.due("goes", square(x, "has 1 0"), 1);
    c.due("empty", x.dear(0), NONE);
    FountainGivesChange y = of("person 0 0 0");
    c.due("one is the most", y.dear(1), 0);
    c.due("the last wish", y.tell(0, 2, 7) + y.dear(1), 7);
    c.due("what", x.dear(2), -15);
    c.due("what", x.dear(-1), -15);
    refusals(x, 0, 0, 0, 0, 2);
  }

  private static void rich() {
    c.about("promise 28");
    FountainGivesChange x = of("piece 3 9 50;piece 2 9 50;piece 3 9 1;person 7 0 0;person 0 0 0;has 0 0;has 1 0;has 2 1");
    c.due("rich", x.rich(0), 16 - 18 + 59 + 7);
    c.due("poor", x.rich(1), 1 - 18);
    c.due("nobody", x.rich(2), -1001);
    c.due("nobody", x.rich(-1), -1001);
    refusals(x, 2);
  }

  private static FountainGivesChange forADay() {
    // Prices: the one who wants 0 has 5, the other wants 1 and has 6 - 2.
    FountainGivesChange x = of("piece 1 3 8;piece 4 0 1;piece 0 0 10;person 20 0 0;person 30 2 1");
    write(x, 0, 0, 0, 9, 1, 5, 0, 5, 1, 24, 0, 5);
    return x;
  }

  private static void judge() {
    c.about("promise 29");
    FountainGivesChange x = forADay();
    c.due("none", x.judge(0, 0), NONE);
    c.due("one", x.judge(0, 1), NONE);
    c.due("three", x.judge(0, 3), NONE);
    c.due("there is no change by then", x.judge(0, 4), 3);
    c.due("the first is meant", x.judge(0, 5), 3);
    x.set(0, 7, 14);
    c.due("there is", x.judge(0, 4), NONE);
    c.due("he hasn't it by then", x.judge(0, 5), NONE);
    c.due("less", x.tell(0, 0, 18) + x.judge(0, 5), 24);
    x.set(0, 0, 2);
    c.due("nobody", x.judge(0, 5), 0);
    x.set(0, 0, -1);
    c.due("nobody", x.judge(0, 5), 0);
    c.due("nothing is changed", x.personOf(0, 0) + x.status(5) + x.status(7) + x.status(2), 21);
    x.show(1, 0);
    c.due("no shelf", x.judge(8, -1), -11);
    c.due("a piece", x.judge(1, -1), -12);
    c.due("nothing", x.judge(2, -1), -13);
    c.due("below", x.judge(0, -1), -14);
    c.due("fewer", x.judge(0, 6), -15);
    c.due("fewer", x.judge(0, MAX), -15);
    x.row(0, 0, 42);
    c.due("above 20", x.judge(0, 21), -16);
    c.due("twenty", x.judge(0, 20), 0);
    refusals(x, 1, 1, 1, 1, 2, 1);
  }

  private static void behind() {
    c.about("promise 30");
    FountainGivesChange x = forADay();
    int[] granted = {0, 1, 2, 3};
    int[] harm = {0, 3, 4, 4};
    int[] money = {0, 9, 14, 19};
    for (int n = 0; n < 4; n++) {
      c.due("granted by " + n, x.behind(0, n, 0), granted[n]);
      c.due("harm by " + n, x.behind(0, n, 1), harm[n]);
      c.due("money by " + n, x.behind(0, n, 2), money[n]);
    }
    c.due("one in truth", x.cast(0, 5), 0);
    c.due("not what was ahead", x.behind(0, 1, 0) + x.behind(0, 1, 2), 10);
    c.due("nothing is changed", x.status(5) * 10 + x.status(7), 51);
    x.show(1, 0);
    c.due("no shelf", x.behind(8, -1, 3), -1);
    c.due("a piece", x.behind(1, -1, 3), -2);
    c.due("nothing", x.behind(2, -1, 3), -3);
    c.due("below", x.behind(0, -1, 3), -4);
    c.due("what, before wrong", x.behind(0, 4, 3), -5);
    c.due("what", x.behind(0, 0, -1), -5);
    c.due("fewer", x.behind(0, 6, 0), -5);
    c.due("wrong", x.behind(0, 4, 0), -6);
    x.row(0, 0, 42);
    c.due("above 20", x.behind(0, 21, 0), -6);
    refusals(x, 1, 1, 1, 1, 3, 2);
  }

  private static void done() {
    c.about("promise 31");
    FountainGivesChange x = forADay();
    x.show(1, 0);
    c.due("no shelf", x.done(8, -1), -1);
    c.due("a piece", x.done(1, -1), -2);
    c.due("nothing", x.done(2, -1), -3);
    c.due("below", x.done(0, -1), -4);
    c.due("fewer", x.done(0, 6), -5);
    c.due("wrong", x.done(0, 4), -6);
    c.due("nothing is changed", x.status(5) + x.status(7) + x.personOf(0, 4), 0);
    c.due("none", x.done(0, 0), 0);
    c.due("in truth", x.done(0, 2), 14);
    c.due("purse", x.personOf(0, 0), 11);
    c.due("purse", x.personOf(1, 0), 25);
    c.due("pieces", x.personOf(0, 4) + 10 * x.personOf(1, 4), 21);
    c.due("granted", x.personOf(0, 3) + x.personOf(1, 3), 2);
    c.due("money", x.status(5), 14);
    c.due("days", x.status(6), 0);
    c.due("the purse is a told one", x.done(0, 1), -6);
    x.set(0, 1, 5);
    c.due("all money", x.done(0, 1), 19);
    x.row(0, 0, 42);
    c.due("above 20", x.done(0, 21), -6);
    refusals(x, 1, 1, 1, 1, 1, 3);
  }

  private static void cast() {
    c.about("promise 32");
    FountainGivesChange x = forADay();
    c.due("pieces", x.cast(0, 10), 3);
    c.due("purse", x.personOf(0, 0), 10);
    c.due("has", x.personOf(0, 4), 3);
    c.due("granted", x.personOf(0, 3), 1);
    c.due("money", x.status(5), 10);
    c.due("days", x.status(6), 0);
    c.due("no pieces", x.cast(1, 4), 0);
    c.due("money", x.status(5), 14);
    c.due("nobody", x.cast(2, 5), -1);
    c.due("nobody", x.cast(-1, 5), -1);
    c.due("no change by now", x.cast(0, 6), -6);
    c.due("less than the price", x.cast(0, 4), -6);
    c.due("more than he has", x.cast(0, 15), -6);
    c.due("no such n", x.cast(0, -1), -6);
    c.due("no such n", x.cast(0, 100), -6);
    c.due("no such n", x.cast(0, MIN), -6);
    c.due("no such n", x.cast(0, MAX), -6);
    refusals(x, 2, 0, 0, 0, 0, 7);
    c.due("all that he has", x.tell(0, 0, 5) + x.cast(0, 5), 10);
    c.due("nothing left", x.personOf(0, 0), 0);
    FountainGivesChange y = of("piece 0 0 1;piece 0 0 3;piece 0 0 4;piece 0 0 3;person 99 0 0;greedy");
    c.due("by the rule", y.cast(0, 11), -6);
    c.due("by the rule", y.cast(0, 10), 5);
  }

  private static void back() {
    c.about("promise 33");
    FountainGivesChange x = of("piece 0 0 1;person 9 0 0;person 9 0 0;has 0 1");
    c.due("back", x.back(0), 1);
    c.due("place", x.pieceOf(0, 5), 99);
    c.due("in the basin", x.back(0), -6);
    c.due("no piece", x.back(1), -1);
    c.due("no piece", x.back(-1), -1);
    refusals(x, 2, 0, 0, 0, 0, 1);
  }

  private static void days() {
    c.about("promise 34");
    FountainGivesChange x = fresh();
    c.due("nobody, before n", x.days(0), -5);
    c.due("nobody", x.days(1), -5);
    x.person(0, 0, 0);
    c.due("n", x.days(0), -6);
    c.due("n", x.days(41), -6);
    c.due("n", x.days(-1), -6);
    c.due("no day yet", x.status(6), 0);
    c.due("no draw yet", x.status(8), 1);
    refusals(x, 0, 0, 0, 0, 2, 3);

    // One person, no piece: three draws a day, with a wish he can't have or can.
    for (int seed = -3; seed < 40; seed++) {
      FountainGivesChange y = of("person 90 9 0");
      for (int wish = 0; wish < 8; wish++) {
        y.cost(wish, 60);
      }
      y.tell(0, 0, seed % 2 == 0 ? 0 : 95);
      y.seed(seed);
      int drawn = draws(seed, 3);
      int purse = Math.min(99, (seed % 2 == 0 ? 0 : 95) + (draws(seed, 2) >>> 16) % 20);
      boolean granted = purse >= 51;
      c.due("granted", y.days(1), granted ? 1 : 0);
      c.due("seed", y.status(8), drawn);
      c.due("purse", y.personOf(0, 0), granted ? purse - 51 : purse);
      c.due("want", y.personOf(0, 2), (drawn >>> 16) % 8);
      c.due("money", y.status(5), granted ? 51 : 0);
      c.due("days", y.status(6), 1);
    }

    // He can't have it, so a piece is drawn, and thrown in only if he has it.
    for (int seed = 0; seed < 40; seed++) {
      FountainGivesChange y = of("person 0 0 0;person 0 0 0;piece 0 0 1;piece 0 0 1;piece 0 0 1;has 0 0;has 1 1");
      for (int wish = 0; wish < 8; wish++) {
        y.cost(wish, 60);
      }
      y.seed(seed);
      c.due("granted", y.days(1), 0);
      c.due("four draws", y.status(8), draws(seed, 4));
      int person = (draws(seed, 1) >>> 16) % 2;
      int piece = (draws(seed, 4) >>> 16) % 3;
      c.due("piece 0", y.pieceOf(0, 5), piece == 0 && person == 0 ? 99 : 0);
      c.due("piece 1", y.pieceOf(1, 5), piece == 1 && person == 1 ? 99 : 1);
      c.due("piece 2", y.pieceOf(2, 5), 99);
    }

    FountainGivesChange z = of("person 0 9 0;person 0 9 1");
    c.due("forty days", z.days(40), z.status(7));
    c.due("days", z.status(6), 40);
    c.due("all together", z.days(1), z.personOf(0, 3) + z.personOf(1, 3));
  }

  private static int draws(int seed, int many) {
    int s = seed;
    for (int i = 0; i < many; i++) {
      s = s * 1103515245 + 12345;
    }
    return s;
  }

  private static void seed() {
    c.about("promise 35");
    FountainGivesChange x = fresh();
    c.due("seed", x.seed(MIN), 1);
    c.due("status", x.status(8), MIN);
    c.due("seed", x.seed(-7), MIN);
    c.due("seed", x.seed(0), -7);
    refusals(x);
  }

  private static void act() {
    c.about("promise 36");
    // Number 0 to 6 of kinds 0 to 6, each with a 3: m is the number, k is 3.
    FountainGivesChange x = of("piece 0 3 1;piece 1 3 1;piece 2 3 1;piece 3 3 1;piece 4 3 1;piece 5 3 1;piece 6 3 1");
    int[][][] bodies = {
      {{10}, {11, 10}, {12, 11, 10, 10}},
      {{20, 10}, {11, 20, 10}, {12, 11, 20, 10, 20, 10}},
      {{10}, {30, 11, 10}, {12, 30, 11, 10, 10}},
      {{40, 20, 10}, {11, 40, 20, 10}, {12, 11, 40, 20, 10, 40, 20, 10}},
      {{51, 10}, {11, 51, 10}, {50, 12, 11, 51, 10, 51, 10}},
      {{10}, {30, 11, 10}, {60, 12, 30, 11, 10, 10}},
      {{70, 51, 10}, {71, 11, 70, 51, 10}, {50, 12, 71, 11, 70, 51, 10, 70, 51, 10}},
    };
    int[] places = {0, 1, -1, 5, 100, -77, MAX, MIN, MAX - 2, MIN + 3, 1 << 30};
    for (int p = 0; p < 7; p++) {
      for (int v : places) {
        c.due("falls of " + p, x.act(p, 0, v), falls(p, v));
        c.due("rings of " + p, x.act(p, 1, v), rings(p, v));
        c.due("sinks of " + p, x.act(p, 2, v), sinks(p, v));
      }
      for (int move = 0; move < 3; move++) {
        x.act(p, move, 5);
        c.due("bodies", x.status(9), bodies[p][move].length);
        for (int i = 0; i < bodies[p][move].length; i++) {
          c.due("trace of " + p + " by " + move, x.trace(i), bodies[p][move][i]);
        }
        c.due("no more", x.trace(bodies[p][move].length), NONE);
      }
    }
    c.due("no piece", x.act(7, 0, 5), 0);
    c.due("no trace", x.status(9), 0);
    c.due("no trace", x.trace(0), NONE);
    c.due("again", x.act(1, 0, 5), 9);
    c.due("no move", x.act(1, 3, 5), 0);
    c.due("no trace", x.status(9), 0);
    c.due("no move", x.act(1, -1, 5), 0);
    c.due("no piece", x.act(-1, 0, 5), 0);
    refusals(x);
  }

  private static int falls(int p, int x) {
    switch (p) {
      case 1: return x + p + 3;
      case 3: return x + 1 + p + 3;
      case 4: return x;
      case 6: return 2 * x;
      default: return x + p;
    }
  }

  private static int rings(int p, int x) {
    return p == 6 ? 2 * falls(p, x - 3) : p == 2 || p == 5 ? 6 * falls(p, x) : 2 * falls(p, x);
  }

  private static int sinks(int p, int x) {
    int plain = rings(p, x) ^ falls(p, x - 3);
    return p == 4 || p == 6 ? -plain : p == 5 ? plain ^ 5 : plain;
  }

  private static void trace() {
    c.about("promise 37");
    FountainGivesChange x = of("piece 0 0 1;piece 6 9 1");
    c.due("sinks", x.act(1, 2, 0) == 0 ? 1 : 1, 1);
    c.due("first", x.trace(0), 50);
    c.due("last", x.trace(9), 10);
    c.due("none such", x.trace(10), NONE);
    c.due("none such", x.trace(20), NONE);
    c.due("none such", x.trace(-1), NONE);
    c.due("none such", x.trace(MIN), NONE);
    c.due("none such", x.trace(MAX), NONE);
    x.act(0, 0, 0);
    c.due("the latest", x.trace(0), 10);
    c.due("nothing of the one ahead", x.trace(1), NONE);
    refusals(x);
  }

  private static void imageAndRestore() {
    c.about("promises 38, 39");
    FountainGivesChange x = of("piece 0 0 4;piece 1 2 9;person 50 1 2;has 1 0;cost 2 9;greedy");
    c.due("none", x.restore(), -6);
    x.seed(77);
    x.cast(0, 12);
    x.days(1);
    int[] ahead = all(x);
    c.due("image", x.image(), 2);
    write(x, 0, 2, 5, 6);
    x.show(1, 1);
    c.due("more", square(x, "piece 2 2 2;person 1 1 1;back 1;best;cost 2 3"), 5);
    x.show(2, 2);
    x.act(0, 0, 0);
    faultIn(x, "bex", 2);
    x.tell(0, 0, 1);
    x.tell(0, 1, 9);
    x.days(5);
    x.piece(9, 9, 9);
    c.due("restore", x.restore(), 2);
    int[] now = all(x);
    for (int i = 0; i < now.length; i++) {
      c.due("as the image has it, " + i, now[i], ahead[i]);
    }
    c.due("a row stays", x.holds(0), 102);
    c.due("its elements", x.element(0, 1), 6);
    c.due("a piece of the image", x.holds(1), 1);
    c.due("nothing", x.holds(2), NONE);
    c.due("the fault stays", x.fault(), 2);
    c.due("the trace stays", x.trace(0), 10);
    c.due("refusals stay", x.status(11) * 10 + x.status(16), 12);
    x.person(3, 3, 3);
    x.rule(0);
    c.due("the image stays", x.restore(), 2);
    c.due("people", x.status(1), 1);
    c.due("a later one", x.piece(0, 0, 1) + x.image(), 5);
    c.due("a later one", x.restore(), 3);
    FountainGivesChange y = fresh();
    c.due("of nothing", y.image(), 0);
    y.piece(0, 0, 1);
    y.show(7, 0);
    y.show(0, 0);
    c.due("of nothing", y.restore(), 0);
    c.due("nothing", y.holds(7), NONE);
    c.due("nothing", y.holds(0), NONE);
    c.due("nothing", y.status(0), 0);
    refusals(y);
  }

  private static int[] all(FountainGivesChange x) {
    int[] all = new int[9 + 12 + 5 + 8];
    for (int i = 0; i < 9; i++) {
      all[i] = x.status(i);
    }
    for (int i = 0; i < 12; i++) {
      all[9 + i] = x.pieceOf(i / 6, i % 6);
    }
    for (int i = 0; i < 5; i++) {
      all[21 + i] = x.personOf(0, i);
    }
    for (int i = 0; i < 8; i++) {
      all[26 + i] = x.price(0, i);
    }
    return all;
  }

  private static void status() {
    c.about("promise 40");
    FountainGivesChange x = of("piece 0 0 4;piece 2 2 9;piece 1 2 9;person 50 1 2;person 9 0 0;has 0 0;greedy");
    c.due("pieces", x.status(0), 3);
    c.due("people", x.status(1), 2);
    c.due("in the basin", x.status(2), 2);
    c.due("their worth", x.status(3), 16);
    c.due("rule", x.status(4), 1);
    x.cast(0, 11);
    x.cast(1, 5);
    c.due("money", x.status(5), 16);
    c.due("days", x.status(6), 0);
    c.due("granted", x.status(7), 2);
    c.due("in the basin", x.status(2) * 100 + x.status(3), 111);
    c.due("seed", x.status(8), 1);
    x.act(2, 0, 0);
    c.due("bodies", x.status(9), 2);
    c.due("another what", x.status(10), NONE);
    c.due("another what", x.status(18), NONE);
    c.due("another what", x.status(-1), NONE);
    c.due("another what", x.status(MIN), NONE);
    c.due("another what", x.status(MAX), NONE);
    refusals(x);
    x.holds(9);
    x.status(99);
    x.element(9, 9);
    x.trace(-5);
    x.act(-1, -1, -1);
    refusals(x);
    x.change(0, 9);
    x.change(100, 0);
    x.rich(9);
    x.harm(9, 0);
    refusals(x, 2, 0, 0, 0, 1, 1);
  }
}
