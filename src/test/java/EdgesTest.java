/** The document's terms, each sentence that names a bound: too small, too large, empty, full, upward, wrapping around. */
public final class EdgesTest {
  private static final int NONE = FountainGivesChange.NONE;
  private static final int MIN = Integer.MIN_VALUE;
  private static final int MAX = Integer.MAX_VALUE;
  private static final Checks c = new Checks();

  public static void main(String[] args) {
    ninePieces();
    sixPeople();
    costsAtFirst();
    worthAndHarm();
    prices();
    changeForNothingAndForAll();
    changeInFewest();
    changeByGreedy();
    aThrowAtItsBounds();
    bestThrows();
    failsAndWaste();
    amounts();
    run();
    fortyTold();
    costsTold();
    dearAndCrowd();
    rich();
    twentyThrows();
    byThen();
    inTruth();
    throwingIn();
    purseInDays();
    whoAndWhatInDays();
    piecesInDays();
    draws();
    shelves();
    sortsOfRows();
    copyOntoItself();
    moves();
    trace();
    image();
    refusalsAreCounted();
    lastCalls();
    c.end();
  }

  private static void write(FountainGivesChange x, int s, int sort, long... values) {
    x.row(s, sort, values.length);
    for (int i = 0; i < values.length; i++) {
      x.set(s, i, values[i]);
    }
  }

  private static FountainGivesChange worths(int... worths) {
    FountainGivesChange x = new FountainGivesChange();
    for (int worth : worths) {
      x.piece(0, 0, worth);
    }
    return x;
  }

  private static void has(FountainGivesChange x, int piece, int person) {
    String text = "has " + piece + " " + person;
    x.row(7, 0, text.length());
    for (int i = 0; i < text.length(); i++) {
      x.set(7, i, text.charAt(i));
    }
    c.due(text, x.square(7), 1);
  }

  // ---- 1. the square

  private static void ninePieces() {
    c.about("PIECES have numbers, from 0 on, 9 at most; in THE BASIN at first");
    FountainGivesChange x = new FountainGivesChange();
    for (int i = 0; i < 9; i++) {
      c.due("piece", x.piece(6, 9, 50), i);
      c.due("place", x.pieceOf(i, 5), 99);
      c.due("how many", x.status(0) * 10 + x.status(2), 11 * i + 11);
    }
    c.due("a tenth", x.piece(6, 9, 50), -7);
    c.due("how many", x.status(0) * 10 + x.status(2), 99);
    c.due("their worth", x.status(3), 90);
    c.due("the ninth shown", x.show(0, 8) * 1000 + x.show(0, 9), 999);
  }

  private static void sixPeople() {
    c.about("PEOPLE have numbers, from 0 on, 6 at most; GRANTED 0 at first");
    FountainGivesChange x = new FountainGivesChange();
    for (int i = 0; i < 6; i++) {
      c.due("person", x.person(99, 9, 7), i);
      c.due("granted, pieces", x.personOf(i, 3) + x.personOf(i, 4), 0);
      c.due("how many", x.status(1), i + 1);
    }
    c.due("a seventh", x.person(99, 9, 7), -7);
    c.due("how many", x.status(1), 6);
  }

  private static void costsAtFirst() {
    c.about("COST of the i-th i and 5 at first");
    FountainGivesChange x = new FountainGivesChange();
    x.person(0, 0, 0);
    for (int wish = 0; wish < 8; wish++) {
      c.due("price", x.price(0, wish), wish + 5);
      c.due("cost", x.cost(wish, 60), wish + 5);
      c.due("then", x.cost(wish, 1), 60);
      c.due("then", x.price(0, wish), 1);
    }
  }

  // ---- 2. worth, harm, price

  private static int worth(int kind, int a, int base) {
    switch (kind) {
      case 0: return base;
      case 1: return base / 2 + base % 2;
      case 2: return base + a;
      case 3: return base / 2 + base % 2 > a ? base / 2 + base % 2 - a : 1;
      case 4: return 1;
      case 5: return (base + a) / 2 + (base + a) % 2;
      default: return a + 1;
    }
  }

  private static void worthAndHarm() {
    c.about("WORTH and HARM of every piece that there can be");
    for (int kind = 0; kind < 7; kind++) {
      for (int a = 0; a < 10; a++) {
        for (int base = 1; base <= 50; base++) {
          FountainGivesChange x = new FountainGivesChange();
          x.piece(kind, a, base);
          int harm = kind == 1 ? a : kind == 3 ? a + a : kind == 4 ? 1 : 0;
          c.due("worth of " + kind + " " + a + " " + base, x.pieceOf(0, 3), worth(kind, a, base));
          c.due("harm of " + kind + " " + a + " " + base, x.pieceOf(0, 4), harm);
          c.due("together", x.status(3), worth(kind, a, base));
        }
      }
    }
    int[][] upward = {{1, 0, 1, 1}, {1, 0, 49, 25}, {5, 0, 1, 1}, {5, 1, 1, 1}, {5, 1, 2, 2}, {5, 9, 50, 30}};
    int[][] oneAtLeast = {{3, 9, 1, 1}, {3, 1, 1, 1}, {3, 1, 3, 1}, {3, 1, 5, 2}, {3, 9, 18, 1}, {3, 9, 20, 1}, {3, 9, 21, 2}};
    for (int[] p : upward) {
      c.due("upward", worthOf(p), p[3]);
    }
    for (int[] p : oneAtLeast) {
      c.due("one at least", worthOf(p), p[3]);
    }
  }

  private static int worthOf(int[] p) {
    FountainGivesChange x = new FountainGivesChange();
    x.piece(p[0], p[1], p[2]);
    return x.pieceOf(0, 3);
  }

  private static void prices() {
    c.about("PRICE: COST, 2 for each other one who WANTS it, less LUCK, 1 at least");
    for (int others = 0; others < 6; others++) {
      for (int luck = 0; luck < 10; luck++) {
        FountainGivesChange x = new FountainGivesChange();
        x.person(0, luck, others % 2 == 0 ? 3 : 4);
        for (int i = 0; i < others; i++) {
          x.person(0, 9, 3);
        }
        for (int cost = 1; cost <= 60; cost++) {
          x.cost(3, cost);
          c.due("price", x.price(0, 3), Math.max(1, cost + 2 * others - luck));
        }
      }
    }
  }

  private static void changeForNothingAndForAll() {
    c.about("CHANGE for 0, for all that there is, beyond it, for 99; of an empty basin");
    FountainGivesChange none = new FountainGivesChange();
    for (int by = 0; by < 2; by++) {
      c.due("0 of nothing", none.change(0, by), 0);
      c.due("1 of nothing", none.change(1, by), NONE);
      c.due("99 of nothing", none.change(99, by), NONE);
    }
    FountainGivesChange nine = worths(1, 2, 3, 4, 5, 6, 7, 8, 9);
    FountainGivesChange upTo99 = worths(50, 49, 50, 49, 50);
    FountainGivesChange alike = worths(11, 11, 11, 11, 11, 11, 11, 11, 11);
    for (int by = 0; by < 2; by++) {
      c.due("0", nine.change(0, by), 0);
      c.due("all nine", nine.change(45, by), 511);
      c.due("one more", nine.change(46, by), NONE);
      c.due("one less", nine.change(44, by), 510);
      c.due("99 of two", upTo99.change(99, by), 3);
      c.due("50", upTo99.change(50, by), 1);
      c.due("98", upTo99.change(98, by), by == 0 ? 10 : NONE);
      c.due("nine alike", alike.change(99, by), 511);
      c.due("eight alike", alike.change(88, by), 255);
      c.due("one alike", alike.change(11, by), 1);
      c.due("below the least", alike.change(10, by), NONE);
    }
    has(personAdded(nine), 8, 0);
    for (int by = 0; by < 2; by++) {
      c.due("what somebody has is not there", nine.change(45, by), NONE);
      c.due("all the others", nine.change(36, by), 255);
      c.due("two instead", nine.change(9, by), by == 0 ? 24 : 129);
    }
    for (int piece = 0; piece < 8; piece++) {
      has(nine, piece, 0);
    }
    c.due("the basin is empty", nine.status(2) + nine.status(3), 0);
    c.due("0", nine.change(0, 0) + nine.change(0, 1), 0);
    c.due("1", nine.change(1, 0) + nine.change(1, 1), -2);
  }

  private static FountainGivesChange personAdded(FountainGivesChange x) {
    x.person(99, 0, 0);
    return x;
  }

  private static void changeInFewest() {
    c.about("best: fewest, then least HARM together, then least as bits");
    // The fewest come first: a wheeze of worth 2 and harm 18 before two of worth 1 without harm.
    FountainGivesChange x = new FountainGivesChange();
    x.piece(0, 0, 1);
    x.piece(6, 0, 1);
    x.piece(3, 9, 21);
    c.due("fewest before harm", x.change(2, 0), 4);
    c.due("and before bits", x.change(3, 0), 5);
    c.due("all", x.change(4, 0), 7);
    // Of several with as many: 17 harm in a lower bit, 1 harm in a higher.
    FountainGivesChange y = new FountainGivesChange();
    y.piece(1, 9, 2);
    y.piece(4, 0, 1);
    y.piece(1, 1, 2);
    y.piece(0, 0, 1);
    y.piece(6, 0, 50);
    c.due("least harm", y.change(1, 0), 8);
    c.due("least harm of two", y.change(2, 0), 24);
    c.due("then bits", y.change(3, 0), 26);
    c.due("then bits", y.change(4, 0), 30);
    c.due("all", y.change(5, 0), 31);
    // The least as bits is of the highest piece that differs, not of the lowest.
    FountainGivesChange z = worths(1, 4, 2, 3);
    c.due("1 and 4, or 2 and 3", z.change(5, 0), 3);
    FountainGivesChange w = worths(4, 2, 3, 1);
    c.due("2 and 3, or 4 and 1", w.change(5, 0), 6);
    // Nine wheezes of harm 18 make 162: more pieces never come before fewer.
    FountainGivesChange v = new FountainGivesChange();
    for (int i = 0; i < 8; i++) {
      v.piece(0, 0, 1);
    }
    v.piece(3, 9, 34);
    c.due("one of harm 18, not eight of none", v.change(8, 0), 256);
    c.due("seven of none", v.change(7, 0), 127);
    c.due("with all", v.change(16, 0), 511);
  }

  private static void changeByGreedy() {
    c.about("greedy: of greatest WORTH, of several the first, not used yet, not WORTH more than what is left");
    FountainGivesChange x = worths(2, 5, 5, 2, 6);
    c.due("worth just what is left", x.change(6, 1), 16);
    c.due("worth more than is left", x.change(5, 1), 2);
    c.due("6, then the first 2, then the other", x.change(10, 1), 25);
    c.due("5 and 5", x.change(10, 0), 6);
    c.due("6 and 2, then 1 is left", x.change(9, 1), NONE);
    c.due("6 and 2", x.change(8, 1), 17);
    c.due("6, 5, 5", x.change(16, 1), 22);
    c.due("all", x.change(20, 1), 31);
    c.due("something is left", x.change(21, 1), NONE);
    c.due("below the least", x.change(1, 1), NONE);
    FountainGivesChange y = worths(3, 3, 3);
    c.due("first", y.change(3, 1), 1);
    c.due("first two", y.change(6, 1), 3);
    c.due("none that isn't worth more", y.change(5, 1), NONE);
    y.piece(1, 9, 10);
    c.due("harm is nothing to them", y.change(5, 1), 8);
  }

  // ---- 3. what comes of it

  private static void aThrowAtItsBounds() {
    c.about("A THROW: he has it, n is the PRICE at least, and there is CHANGE for what is above");
    FountainGivesChange x = worths(2, 4);
    x.person(11, 0, 0);
    for (int n = 0; n < 100; n++) {
      boolean is = n == 5 || n == 7 || n == 9 || n == 11;
      c.due("harm of " + n, x.harm(0, n), is ? 0 : NONE);
    }
    for (int n : new int[] {-1, 0, 4, 6, 8, 10, 12, 99, 100, MIN, MAX}) {
      c.due("cast " + n, x.cast(0, n), -6);
    }
    c.due("all that he has", x.cast(0, 11), 3);
    c.due("nothing left", x.personOf(0, 0), 0);
    FountainGivesChange y = worths(49, 50);
    y.person(99, 9, 0);
    y.cost(0, 1);
    for (int n = 0; n < 100; n++) {
      c.due("harm of " + n, y.harm(0, n), n == 1 || n == 50 || n == 51 ? 0 : NONE);
    }
    y.piece(0, 0, 48);
    c.due("99 by a price of 1", y.harm(0, 99), 0);
    c.due("in truth", y.cast(0, 99), 6);
    FountainGivesChange z = new FountainGivesChange();
    z.person(0, 9, 0);
    c.due("a purse of 0 has no throw", z.harm(0, 0), NONE);
    c.due("nor in truth", z.cast(0, 0), -6);
  }

  private static void bestThrows() {
    c.about("BEST THROW: least HARM, then the least n; NONE; that HARM");
    for (int purse = 0; purse < 100; purse++) {
      FountainGivesChange x = new FountainGivesChange();
      x.piece(4, 0, 1);
      x.piece(0, 0, 1);
      x.person(purse, 0, 7);
      x.cost(7, 60);
      c.due("n, purse " + purse, x.best(0, 0), purse < 60 ? NONE : 60);
      c.due("harm, purse " + purse, x.best(0, 1), purse < 60 ? NONE : 0);
      x.rule(1);
      c.due("by the greedy", x.best(0, 0), purse < 60 ? NONE : 60);
      c.due("by the greedy", x.best(0, 1), purse < 60 ? NONE : 0);
    }
    FountainGivesChange six = new FountainGivesChange();
    for (int i = 0; i < 6; i++) {
      six.person(i < 3 ? 70 : 69, 0, 7);
    }
    six.cost(7, 60);
    for (int i = 0; i < 6; i++) {
      c.due("the greatest price", six.best(i, 0), i < 3 ? 70 : NONE);
      c.due("its harm", six.best(i, 1), i < 3 ? 0 : NONE);
    }
  }

  private static void failsAndWaste() {
    c.about("FAILS, WASTE: the least c, 1 to 99");
    c.due("4 and 6: the least", worths(3, 2, 2, 2).fails(0), 4);
    c.due("4 by 2 and 2, but the greedy take 3", worths(3, 2, 2).fails(0), 4);
    c.due("98 by 49 and 49, but the greedy take 50", worths(50, 49, 49).fails(0), 98);
    c.due("99 by 50 and 49: the greedy do", worths(50, 49).fails(0), NONE);
    c.due("66 by 33 and 33, but the greedy take 50", worths(50, 33, 33, 33).fails(0), 66);
    c.due("99 by 50 and 49, but the greedy take 51: the last that counts", with51(50, 49).fails(0), 99);
    c.due("100 by 50 and 50 doesn't count", with51(50, 50).fails(0), NONE);
    c.due("one piece", worths(50).fails(0), NONE);
    c.due("none", new FountainGivesChange().fails(0), NONE);
    c.due("none", new FountainGivesChange().fails(1), NONE);
    c.due("6 by 3 and 3, the greedy 4, 1, 1", worths(1, 1, 3, 3, 4).fails(1), 6);
    c.due("and they don't fail", worths(1, 1, 3, 3, 4).fails(0), NONE);
    c.due("99 by 50 and 49, but the greedy take 51, 24, 24", with51(50, 49, 24, 24).fails(1), 99);
    c.due("100 by 50 and 50 doesn't count", with51(50, 50, 24, 25).fails(1), NONE);
    c.due("as many is no waste", worths(1, 3, 4, 2).fails(1), NONE);
    FountainGivesChange x = worths(3, 2, 2);
    x.person(9, 0, 0);
    has(x, 0, 0);
    c.due("only what is in the basin", x.fails(0), NONE);
  }

  private static FountainGivesChange with51(int... worths) {
    FountainGivesChange x = worths(worths);
    x.piece(2, 1, 50);
    return x;
  }

  private static void amounts() {
    c.about("AMOUNTS: for how many c, 1 to 99");
    FountainGivesChange all = worths(1, 2, 4, 8, 16, 32, 36);
    c.due("all by the best", all.amounts(0), 99);
    c.due("one piece", worths(50).amounts(0), 1);
    c.due("two of 50: 100 doesn't count", worths(50, 50).amounts(0), 1);
    c.due("by the greedy", worths(50, 50).amounts(1), 1);
    c.due("50 and 49: 99 counts", worths(50, 49).amounts(0), 3);
    c.due("by the greedy", worths(50, 49).amounts(1), 3);
    c.due("0 doesn't count", new FountainGivesChange().amounts(0), 0);
    c.due("nor by the greedy", new FountainGivesChange().amounts(1), 0);
    int greedy = 0;
    for (int n = 1; n < 100; n++) {
      greedy += all.change(n, 1) == NONE ? 0 : 1;
    }
    c.due("as the change is", all.amounts(1), greedy);
  }

  private static void run() {
    c.about("RUN: all PEOPLE one behind the other; how many at most; the i-th");
    for (int people = 0; people <= 6; people++) {
      FountainGivesChange x = worths(1);
      for (int i = 0; i < people; i++) {
        // The one of number i wants i and has its price, or one too few.
        x.person(i + 5 - (i % 3 == 1 ? 1 : 0), 0, i);
      }
      int served = people - (people + 1) / 3;
      c.due("how many of " + people, x.run(NONE), served);
      for (int i = 0; i < people; i++) {
        c.due("the " + i + "th of " + people, x.run(i), i);
      }
      c.due("no such i", x.run(people), -5);
      c.due("nothing is changed", x.status(5) + x.status(7), 0);
    }
  }

  private static void fortyTold() {
    c.about("RULES by 0 to 40 twos");
    FountainGivesChange x = worths(3, 2, 2);
    x.row(0, 2, 82);
    for (int i = 0; i < 40; i++) {
      x.set(0, 2 * i, 4);
      x.set(0, 2 * i + 1, 6);
    }
    c.due("none", x.rules(0, 0), 3);
    c.due("one", x.rules(0, 1), 1);
    c.due("forty", x.rules(0, 40), 1);
    c.due("forty-one", x.rules(0, 41), -6);
    x.set(0, 79, NONE);
    c.due("the fortieth", x.rules(0, 40), 0);
    c.due("thirty-nine", x.rules(0, 39), 1);
    for (int i = 0; i < 40; i++) {
      x.set(0, 2 * i + 1, NONE);
    }
    c.due("the greedy fail", x.rules(0, 40), 2);
    for (long bits : new long[] {0, 1, 2, 4, 7, 8, 512, -2, MIN, MAX, (1L << 32) + 6}) {
      x.set(0, 1, bits);
      c.due("pieces " + bits, x.rules(0, 1), (int) bits == 6 ? 1 : 0);
    }
    for (int c0 : new int[] {0, 99}) {
      x.set(0, 0, c0);
      x.set(0, 1, c0 == 0 ? 0 : NONE);
      c.due("c " + c0, x.rules(0, 1), 3);
    }
  }

  private static void costsTold() {
    c.about("COSTS: how many of 1 to 60, the least");
    for (int luck = 0; luck < 10; luck++) {
      FountainGivesChange x = new FountainGivesChange();
      x.person(0, luck, 1);
      x.person(0, 0, 0);
      x.row(0, 2, 2);
      for (int price = -1; price <= 64; price++) {
        x.set(0, 1, price);
        // One other wants it: COST is PRICE and LUCK, less 2; by a PRICE of 1 also all below.
        int cost = price + luck - 2;
        int many = price < 1 ? 0 : price == 1 ? Math.max(cost, 0) : cost >= 1 && cost <= 60 ? 1 : 0;
        c.due("how many, luck " + luck + " price " + price, x.costs(0, 1, 0, 0), many);
        c.due("the least, luck " + luck + " price " + price, x.costs(0, 1, 0, 1), many == 0 ? NONE : price == 1 ? 1 : cost);
      }
    }
    FountainGivesChange y = new FountainGivesChange();
    y.person(0, 0, 3);
    y.row(0, 0, 160);
    for (int i = 0; i < 40; i++) {
      y.set(0, 2 * i + 1, 60);
    }
    c.due("forty, the greatest", y.costs(0, 40, 5, 0) * 100 + y.costs(0, 40, 5, 1), 160);
    y.set(0, 79, 59);
    c.due("the fortieth", y.costs(0, 40, 5, 0) + y.costs(0, 40, 5, 1), NONE);
    c.due("none told", y.costs(0, 0, 5, 0) * 100 + y.costs(0, 0, 5, 1), 6001);
    c.due("the cost stays", y.cost(5, 1), 10);
  }

  private static void dearAndCrowd() {
    c.about("DEAR, of several the first, NONE: empty; CROWD, of several the first, NONE: nobody");
    c.due("empty", new FountainGivesChange().dear(0), NONE);
    c.due("nobody", new FountainGivesChange().dear(1), NONE);
    c.due("one piece, without which there are none", worths(50).dear(0), 0);
    c.due("nine alike: the first", worths(7, 7, 7, 7, 7, 7, 7, 7, 7).dear(0), 0);
    c.due("all as dear: the first", worths(1, 2, 4, 8).dear(0), 0);
    c.due("the last", worths(1, 1, 1, 50).dear(0), 3);
    FountainGivesChange x = worths(1, 1, 1, 50);
    x.person(0, 0, 0);
    has(x, 3, 0);
    c.due("what somebody has isn't", x.dear(0), 0);
    has(x, 0, 0);
    has(x, 1, 0);
    c.due("the last one in it", x.dear(0), 2);
    has(x, 2, 0);
    c.due("the basin is empty, though there are pieces", x.dear(0), NONE);
    FountainGivesChange y = new FountainGivesChange();
    int[] wants = {7, 6, 6, 7, 0, 0};
    int[] crowd = {7, 6, 6, 6, 6, 0};
    for (int i = 0; i < 6; i++) {
      y.person(0, 0, wants[i]);
      c.due("crowd", y.dear(1), crowd[i]);
    }
  }

  private static void rich() {
    c.about("RICH: WORTH of his PIECES, and PURSE, less HARM");
    FountainGivesChange x = new FountainGivesChange();
    x.person(0, 0, 0);
    x.person(99, 0, 0);
    c.due("nothing", x.rich(0), 0);
    c.due("a full purse", x.rich(1), 99);
    for (int i = 0; i < 9; i++) {
      x.piece(3, 9, 1);
      has(x, i, 0);
      c.due("below 0", x.rich(0), -17 * (i + 1));
    }
    c.due("he has none", x.rich(1), 99);
  }

  private static void twentyThrows() {
    c.about("A told DAY of 0 to 20 twos");
    FountainGivesChange x = worths(1, 1, 1, 1, 1, 1, 1, 1, 1);
    x.person(29, 9, 0);
    x.row(0, 1, 44);
    for (int i = 0; i < 20; i++) {
      x.set(0, 2 * i + 1, i < 9 ? 2 : 1);
    }
    for (int n = 0; n <= 20; n++) {
      c.due("wrong of " + n, x.judge(0, n), NONE);
      c.due("granted of " + n, x.behind(0, n, 0), n);
      c.due("money of " + n, x.behind(0, n, 2), n + Math.min(n, 9));
    }
    c.due("twenty-one", x.judge(0, 21), -16);
    c.due("twenty-one", x.behind(0, 21, 0), -6);
    c.due("twenty-one", x.done(0, 21), -6);
    x.tell(0, 0, 28);
    c.due("he hasn't the last by then", x.judge(0, 20), 19);
    c.due("wrong", x.behind(0, 20, 2), -6);
    x.tell(0, 0, 29);
    c.due("in truth", x.done(0, 20), 29);
    c.due("his purse", x.personOf(0, 0), 0);
    c.due("his pieces", x.personOf(0, 4), 511);
    c.due("granted", x.personOf(0, 3), 20);
    c.due("the basin", x.status(2), 0);
    c.due("none in truth", x.done(0, 0), 29);
  }

  private static void byThen() {
    c.about("the first two that is no THROW by then");
    FountainGivesChange x = worths(3);
    x.person(20, 0, 0);
    x.person(20, 0, 1);
    write(x, 0, 3, 0, 8, 1, 9, 0, 5);
    c.due("the change is gone", x.judge(0, 3), 1);
    c.due("one is none", x.judge(0, 1), NONE);
    x.piece(1, 4, 6);
    c.due("another is there", x.judge(0, 3), NONE);
    c.due("its harm", x.behind(0, 3, 1), 4);
    c.due("without it", x.behind(0, 1, 1), 0);
    x.tell(0, 0, 12);
    c.due("the purse is empty by then", x.judge(0, 3), 2);
    for (long one : new long[] {2, -1, MIN, MAX, 1L << 31}) {
      x.set(0, 0, one);
      c.due("nobody " + one, x.judge(0, 3), 0);
    }
    x.set(0, 0, 1L << 32);
    c.due("the lowest 32 bits", x.judge(0, 1), NONE);
    for (long n : new long[] {4, 6, 100, -1, MIN, MAX}) {
      x.set(0, 1, n);
      c.due("no throw of " + n, x.judge(0, 1), 0);
    }
  }

  private static void inTruth() {
    c.about("IN TRUTH, a THROW: PURSE n less, PIECES his, GRANTED 1 more, MONEY n more, WANT stays");
    FountainGivesChange x = new FountainGivesChange();
    x.piece(1, 4, 6);
    x.piece(0, 0, 2);
    x.person(99, 0, 0);
    x.person(99, 0, 0);
    c.due("pieces", x.cast(1, 12), 3);
    c.due("purse", x.personOf(1, 0), 87);
    c.due("want", x.personOf(1, 2), 0);
    c.due("granted", x.personOf(1, 3) * 10 + x.personOf(0, 3), 10);
    c.due("pieces", x.personOf(1, 4) * 10 + x.personOf(0, 4), 30);
    c.due("places", x.pieceOf(0, 5) + x.pieceOf(1, 5), 2);
    c.due("money", x.status(5), 12);
    c.due("days", x.status(6), 0);
    c.due("the other is as he was", x.personOf(0, 0), 99);
    c.due("more pieces beside his own", x.piece(0, 0, 7) + x.cast(1, 14), 6);
    c.due("pieces", x.personOf(1, 4), 7);
    c.due("money", x.status(5), 26);
  }

  private static void throwingIn() {
    c.about("THROWING IN: a PIECE somebody HAS is in THE BASIN");
    FountainGivesChange x = worths(1, 1, 1, 1, 1, 1, 1, 1, 1);
    for (int i = 0; i < 6; i++) {
      x.person(0, 0, 0);
    }
    has(x, 8, 5);
    has(x, 0, 0);
    c.due("in the basin", x.back(1), -6);
    c.due("the last, of the last", x.back(8), 5);
    c.due("in the basin", x.back(8), -6);
    c.due("the first, of the first", x.back(0), 0);
    c.due("no such", x.back(9), -1);
    c.due("all in it", x.status(2), 9);
    c.due("nobody has any", x.personOf(0, 4) + x.personOf(5, 4), 0);
  }

  // ---- days by draws

  private static int next(int seed) {
    return seed * 1103515245 + 12345;
  }

  private static int drawn(int seed, int below) {
    return (seed >> 16 & 65535) % below;
  }

  private static void purseInDays() {
    c.about("his PURSE is a DRAW below 20 more (99 at most)");
    boolean[] met = new boolean[20];
    int full = 0;
    for (int seed = -200; seed < 200; seed++) {
      for (int purse : new int[] {0, 79, 80, 81, 98, 99}) {
        FountainGivesChange x = new FountainGivesChange();
        x.person(purse, 0, 0);
        for (int wish = 0; wish < 8; wish++) {
          x.cost(wish, 60);
        }
        x.seed(seed);
        int more = drawn(next(next(seed)), 20);
        met[more] = true;
        full += purse + more > 99 ? 1 : 0;
        int got = Math.min(99, purse + more);
        c.due("granted", x.days(1), got >= 60 ? 1 : 0);
        c.due("purse " + purse + " and " + more, x.personOf(0, 0), got >= 60 ? got - 60 : got);
        c.due("money", x.status(5), got >= 60 ? 60 : 0);
      }
    }
    c.due("0 and 19 were met", met[0] && met[19] ? 1 : 0, 1);
    c.due("more than 99 was met", full > 0 ? 1 : 0, 1);
  }

  private static void whoAndWhatInDays() {
    c.about("one of PEOPLE (a DRAW below how many), his WANT a DRAW below 8, his BEST THROW, if he has one");
    for (int people = 1; people <= 6; people++) {
      for (int seed = 0; seed < 60; seed++) {
        FountainGivesChange x = new FountainGivesChange();
        for (int i = 0; i < people; i++) {
          x.person(i, i, i);
        }
        x.seed(seed);
        int s = next(seed);
        int who = drawn(s, people);
        s = next(s);
        int purse = who + drawn(s, 20);
        s = next(s);
        int want = drawn(s, 8);
        int others = want < people && want != who ? 1 : 0;
        int price = Math.max(1, want + 5 + 2 * others - who);
        boolean has = price <= purse;
        c.due("granted", x.days(1), has ? 1 : 0);
        c.due("want", x.personOf(who, 2), want);
        c.due("purse", x.personOf(who, 0), has ? purse - price : purse);
        c.due("granted, his", x.personOf(who, 3), has ? 1 : 0);
        c.due("money", x.status(5), has ? price : 0);
        c.due("no draw for a piece, if there are none", x.status(8), s);
        for (int i = 0; i < people; i++) {
          c.due("the others stay", i == who ? i : x.personOf(i, 2) + x.personOf(i, 0) - i, i);
        }
      }
    }
  }

  private static void piecesInDays() {
    c.about("else a PIECE (a DRAW below how many): if he HAS it, he throws it in");
    int thrownIn = 0;
    for (int pieces = 1; pieces <= 9; pieces++) {
      for (int seed = 0; seed < 40; seed++) {
        FountainGivesChange x = new FountainGivesChange();
        x.person(0, 0, 0);
        x.person(0, 0, 0);
        for (int i = 0; i < pieces; i++) {
          x.piece(0, 0, 1);
          if (i % 3 != 2) {
            has(x, i, i % 3);
          }
        }
        for (int wish = 0; wish < 8; wish++) {
          x.cost(wish, 60);
        }
        x.seed(seed);
        int s = next(seed);
        int who = drawn(s, 2);
        s = next(next(next(s)));
        int which = drawn(s, pieces);
        c.due("granted", x.days(1), 0);
        c.due("four draws", x.status(8), s);
        for (int i = 0; i < pieces; i++) {
          int place = i % 3 == 2 ? 99 : i % 3;
          boolean goes = i == which && place == who;
          thrownIn += goes ? 1 : 0;
          c.due("place", x.pieceOf(i, 5), goes ? 99 : place);
        }
      }
    }
    c.due("some were thrown in", thrownIn > 0 ? 1 : 0, 1);
    // He has a BEST THROW: no piece is drawn, and none goes.
    FountainGivesChange y = worths(1, 1);
    y.person(99, 9, 0);
    has(y, 0, 0);
    c.due("granted", y.days(1), 1);
    c.due("three draws", y.status(8), next(next(next(1))));
    c.due("his piece", y.personOf(0, 4), 1);
    // Nor does one come to him: the change for 0 is none.
    for (int rule = 0; rule < 2; rule++) {
      FountainGivesChange z = worths(1, 1, 1, 1, 1, 1, 1, 1, 1);
      z.person(99, 9, 0);
      z.person(99, 9, 0);
      z.rule(rule);
      has(z, 8, 1);
      c.due("granted", z.days(9), z.status(7));
      c.due("some were", z.status(7) > 0 ? 1 : 0, 1);
      c.due("the basin", z.status(2), 8);
      c.due("whose the ninth is", z.personOf(0, 4) + z.personOf(1, 4), 256);
    }
  }

  private static void draws() {
    c.about("a DRAW: SEED times 1103515245 and 12345, wrapping; its upper 16 bits, no sign");
    for (int seed : new int[] {0, 1, -1, 2, MIN, MAX, MIN + 1, 1 << 16, -(1 << 16), 123456789, -987654321}) {
      FountainGivesChange x = new FountainGivesChange();
      x.person(0, 0, 0);
      x.cost(0, 60);
      c.due("seed", x.seed(seed), 1);
      long wide = seed;
      for (int i = 0; i < 3; i++) {
        wide = (int) (wide * 1103515245L + 12345L);
      }
      x.days(1);
      c.due("behind three draws", x.status(8), wide);
      c.due("the third", x.personOf(0, 2), (wide & 0xFFFFFFFFL) / 65536 % 8);
      c.due("what it was", x.seed(seed), wide);
    }
    c.about("n times: DAYS 1 more");
    FountainGivesChange x = new FountainGivesChange();
    x.person(0, 0, 0);
    c.due("one", x.days(1) >= 0 ? x.status(6) : 0, 1);
    c.due("forty", x.days(40) >= 0 ? x.status(6) : 0, 41);
    c.due("forty-one", x.days(41), -6);
    c.due("none", x.days(0), -6);
    c.due("still", x.status(6), 41);
    FountainGivesChange y = new FountainGivesChange();
    y.person(0, 0, 0);
    for (int i = 0; i < 40; i++) {
      y.days(1);
    }
    FountainGivesChange z = new FountainGivesChange();
    z.person(0, 0, 0);
    z.days(40);
    c.due("forty as forty times one", y.status(8) + y.status(7) + y.status(5), z.status(8) + z.status(7) + z.status(5));
  }

  // ---- shelves

  private static void shelves() {
    c.about("SHELVES 0 to 7 hold NOTHING, a ROW, or a PIECE; 0 to 160 elements, 0 at first");
    FountainGivesChange x = worths(5);
    for (int s = 0; s < 8; s++) {
      c.due("nothing at first", x.holds(s), NONE);
      c.due("row", x.row(s, s % 4, s == 0 ? 0 : 160), 1);
      c.due("holds", x.holds(s), 100 + s % 4);
    }
    for (int i = 0; i < 160; i++) {
      c.due("0 at first", x.element(7, i), 0);
    }
    c.due("the last", x.set(7, 159, -1), 1);
    c.due("behind the last", x.set(7, 160, -1), -5);
    c.due("kept", x.element(7, 159), -1);
    c.due("beside it", x.element(7, 158) + x.element(7, 160) + x.element(6, 159), 0);
    c.due("a new row, shorter", x.row(7, 3, 10), 1);
    c.due("a new row, as long", x.row(7, 3, 160), 1);
    c.due("0 at first", x.element(7, 159), 0);
    c.due("an empty row has no first", x.set(0, 0, 1), -5);
    c.due("nor is it read", x.element(0, 0), 0);
    c.due("a piece instead", x.show(0, 0) * 10 + x.holds(0), 10);
    c.due("nothing instead", x.show(0, NONE) * 10 + x.holds(0), NONE);
    c.due("a row again", x.row(0, 0, 1) * 1000 + x.holds(0), 1100);
  }

  private static void sortsOfRows() {
    c.about("what is put in keeps its lowest bits");
    FountainGivesChange x = new FountainGivesChange();
    long[] edges = {
      Byte.MAX_VALUE, Byte.MIN_VALUE, Byte.MAX_VALUE + 1, Byte.MIN_VALUE - 1,
      Short.MAX_VALUE, Short.MIN_VALUE, Short.MAX_VALUE + 1, Short.MIN_VALUE - 1,
      MAX, MIN, MAX + 1L, MIN - 1L, Long.MAX_VALUE, Long.MIN_VALUE, -1, 0, 255, 256, 65535, 65536, 0xFFFFFFFFL, 1L << 32
    };
    for (int sort = 0; sort < 4; sort++) {
      x.row(sort, sort, 1);
      int bits = 8 << sort;
      for (long v : edges) {
        c.due("set", x.set(sort, 0, v), 1);
        c.due("sort " + sort + " of " + v, x.element(sort, 0), v << 64 - bits >> 64 - bits);
      }
    }
  }

  private static void copyOntoItself() {
    c.about("copy: as they were ahead");
    for (int i = 0; i <= 6; i++) {
      for (int j = 0; j <= 6; j++) {
        for (int n = 0; n <= 6; n++) {
          FountainGivesChange x = new FountainGivesChange();
          write(x, 2, 3, 10, 11, 12, 13, 14, 15);
          boolean fits = i + n <= 6 && j + n <= 6;
          c.due("copy", x.copy(2, 2, i, j, n), fits ? 1 : -5);
          for (int t = 0; t < 6; t++) {
            boolean came = fits && t >= j && t < j + n;
            c.due("element", x.element(2, t), 10 + (came ? t - j + i : t));
          }
        }
      }
    }
    FountainGivesChange x = new FountainGivesChange();
    x.row(0, 0, 160);
    x.row(1, 0, 160);
    x.set(0, 0, 1);
    x.set(0, 159, 2);
    c.due("a full row", x.copy(0, 1, 0, 0, 160), 1);
    c.due("first and last", x.element(1, 0) * 10 + x.element(1, 159), 12);
    c.due("one more", x.copy(0, 1, 0, 0, 161), -5);
  }

  // ---- moves

  private static void moves() {
    c.about("MOVES, with x (wrapping)");
    int[] xs = {0, MIN, MAX, MIN + 1, MAX - 1, -1, 1, 1 << 30, -(1 << 30), 715827883};
    for (int kind = 0; kind < 7; kind++) {
      for (int a : new int[] {0, 9}) {
        FountainGivesChange x = new FountainGivesChange();
        PlainFountain y = new PlainFountain();
        for (int i = 0; i < 9; i++) {
          x.piece(kind, a, 1);
          y.piece(kind, a, 1);
        }
        for (int piece : new int[] {0, 8}) {
          for (int v : xs) {
            for (int move = 0; move < 3; move++) {
              c.due("kind " + kind + ", move " + move + " of " + v, x.act(piece, move, v), y.act(piece, move, v));
            }
          }
        }
      }
    }
    FountainGivesChange x = new FountainGivesChange();
    x.piece(0, 9, 1);
    x.piece(1, 9, 1);
    c.due("x and m wraps", x.act(1, 0, MAX), (int) ((long) MAX + 10 - (1L << 32)));
    c.due("times 2 wraps", x.act(0, 1, 1 << 30), MIN);
    c.due("x less k wraps", x.act(0, 2, MIN), MIN * 2 ^ MAX - 8);
  }

  private static void trace() {
    c.about("THE TRACE: of the latest act(), in the order in which they began; NONE: none such");
    FountainGivesChange x = new FountainGivesChange();
    c.due("none yet", x.trace(0) + x.status(9), NONE);
    x.piece(6, 3, 1);
    x.act(0, 2, 7);
    int[] longest = {50, 12, 71, 11, 70, 51, 10, 70, 51, 10};
    for (int i = 0; i < 25; i++) {
      c.due("body " + i, x.trace(i), i < longest.length ? longest[i] : NONE);
    }
    c.due("how many", x.status(9), 10);
    for (int i : new int[] {-1, 10, 19, 20, MIN, MAX}) {
      c.due("none such " + i, x.trace(i), NONE);
    }
    x.act(0, 0, 7);
    c.due("shorter", x.status(9), 3);
    c.due("its last", x.trace(2), 10);
    c.due("none behind", x.trace(3), NONE);
    int[][] none = {{1, 0}, {-1, 0}, {0, 3}, {0, -1}, {MIN, MAX}};
    for (int[] of : none) {
      x.act(0, 0, 7);
      c.due("answer", x.act(of[0], of[1], 7), 0);
      c.due("no trace then", x.trace(0), NONE);
      c.due("no bodies", x.status(9), 0);
    }
  }

  // ---- the image, refusals, the last calls

  private static void image() {
    c.about("THE IMAGE of all but SHELVES; SHELVES with PIECES hold those of these numbers, or NOTHING");
    FountainGivesChange x = new FountainGivesChange();
    c.due("none yet", x.restore(), -6);
    c.due("of nothing", x.image(), 0);
    for (int i = 0; i < 8; i++) {
      x.piece(0, 0, 1);
    }
    for (int i = 0; i < 6; i++) {
      x.person(0, 0, 0);
    }
    c.due("of eight", x.image(), 8);
    c.due("a ninth", x.piece(4, 9, 1), 8);
    c.due("full", x.piece(4, 9, 1), -7);
    for (int s = 0; s < 8; s++) {
      x.show(s, s + 1);
    }
    c.due("restore", x.restore(), 8);
    for (int s = 0; s < 8; s++) {
      c.due("shelf " + s, x.holds(s), s == 7 ? NONE : s + 1);
    }
    c.due("says", x.says(6, 0), 1);
    c.due("room again, of another kind", x.piece(6, 9, 1), 8);
    c.due("the shelf still holds nothing", x.holds(7), NONE);
    c.due("again", x.restore(), 8);
    c.due("people too", x.status(1), 6);
    c.due("a person too many", x.person(0, 0, 0), -7);
    c.about("THE IMAGE: RULE, MONEY, DAYS, SEED, COST, GRANTED");
    FountainGivesChange y = new FountainGivesChange();
    y.person(99, 9, 0);
    y.image();
    y.rule(1);
    y.cost(0, 60);
    y.seed(9);
    y.days(40);
    y.tell(0, 1, 0);
    y.row(0, 3, 1);
    y.set(0, 0, 5);
    c.due("restore", y.restore(), 0);
    c.due("rule, money, days, granted", y.status(4) + y.status(5) + y.status(6) + y.status(7), 0);
    c.due("seed", y.status(8), 1);
    c.due("luck, want", y.personOf(0, 1) * 10 + y.personOf(0, 2), 90);
    c.due("purse", y.personOf(0, 0), 99);
    c.due("cost", y.cost(0, 5), 5);
    c.due("rows stay", y.element(0, 0), 5);
  }

  private static void refusalsAreCounted() {
    c.about("what changes is how many REFUSALS there were");
    FountainGivesChange x = worths(1);
    x.show(0, 0);
    for (int i = 1; i <= 40; i++) {
      x.row(8, 0, 0);
      x.square(0);
      x.square(1);
      x.row(1, 0, -1);
      x.dear(2);
      x.change(100, 0);
      x.row(1, 0, 161);
      x.rich(0);
      x.harm(0, 0);
    }
    int[] due = {120, 40, 40, 40, 40, 40, 40};
    for (int w = 0; w < 7; w++) {
      c.due("-" + (w + 1), x.status(11 + w), due[w]);
    }
    c.due("none of 10 and 18", x.status(10) + x.status(18), -2);
  }

  private static void lastCalls() {
    c.about("an object is used for at most 512 calls");
    FountainGivesChange x = new FountainGivesChange();
    int calls = 0;
    for (int i = 0; i < 6; i++, calls++) {
      x.person(99, 9, i);
    }
    for (; calls < 511; calls++) {
      x.days(40);
    }
    c.due("days", x.status(6), 505 * 40);
    FountainGivesChange y = new FountainGivesChange();
    y.person(99, 9, 0);
    y.cost(0, 1);
    for (int i = 0; i < 254; i++) {
      y.tell(0, 0, 99);
      y.cast(0, 1);
    }
    c.due("money", y.status(5), 254);
    c.due("granted", y.status(7), 254);
  }
}
