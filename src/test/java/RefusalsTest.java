/**
 * Every refused call of every promise: its answer, which refusal it counts (and that it counts no other), which of
 * several that fit comes first, and that nothing else changes. Each is tried on one of two objects with the same
 * calls behind them; what can be seen of both is compared, before and after THE IMAGE is restored. Beside each
 * number that is just refused stands the last one that isn't.
 */
public final class RefusalsTest {
  private static final int NONE = FountainGivesChange.NONE;
  private static final int MIN = Integer.MIN_VALUE;
  private static final int MAX = Integer.MAX_VALUE;
  private static final int[] NO_SHELVES = {-1, 8, MIN, MAX};
  private static final int[] NO_KINDS = {-1, 7, MIN, MAX};
  private static final int[] NO_WISHES = {-1, 8, MIN, MAX};
  private static final int[] NO_PIECES = {-1, 5, MIN, MAX};
  private static final int[] NO_PEOPLE = {-1, 3, MIN, MAX};
  private static final int[] NO_TWO = {-1, 2, MIN, MAX};
  private static final int[] NO_AMOUNTS = {-1, 100, MIN, MAX};
  private static final int[] BELOW = {-1, MIN};

  // What the stage's SHELVES hold.
  private static final int DAY = 0;
  private static final int PIECE = 1;
  private static final int NOTHING = 2;
  private static final int LONGS = 3;
  private static final int ZEROS = 4;
  private static final int BYTES = 5;
  private static final int TEXT = 6;
  private static final int EMPTY = 7;

  private static final Checks c = new Checks();

  private interface Call {
    long on(FountainGivesChange x);
  }

  private interface CallWith {
    long on(FountainGivesChange x, int v);
  }

  public static void main(String[] args) {
    row();
    set();
    copy();
    show();
    says();
    piece();
    person();
    cost();
    rule();
    tell();
    pieceOf();
    personOf();
    square();
    price();
    change();
    harm();
    best();
    fails();
    amounts();
    run();
    rules();
    costs();
    dear();
    rich();
    judge();
    behind();
    done();
    cast();
    back();
    days();
    restore();
    neverRefused();
    c.end();
  }

  // ---- the stage: five PIECES, three PEOPLE, an IMAGE that isn't as all is now

  private static void write(FountainGivesChange x, int s, int sort, long... values) {
    x.row(s, sort, values.length);
    for (int i = 0; i < values.length; i++) {
      x.set(s, i, values[i]);
    }
  }

  private static void text(FountainGivesChange x, int s, String text) {
    x.row(s, 1, text.length());
    for (int i = 0; i < text.length(); i++) {
      x.set(s, i, text.charAt(i));
    }
  }

  /** Worths 3, 4, 3, 6, 1; 0 is with person 0, 2 and 3 with 1; MONEY 15; RULE greedy; prices 5, 4 and 12. */
  private static FountainGivesChange stage() {
    FountainGivesChange x = new FountainGivesChange();
    x.piece(0, 4, 3);
    x.piece(1, 3, 8);
    x.piece(3, 2, 9);
    x.piece(6, 5, 1);
    x.piece(4, 0, 1);
    x.person(60, 0, 0);
    x.person(50, 2, 1);
    x.person(3, 0, 7);
    x.seed(77);
    x.days(1);
    for (int one = 0; one < 3; one++) {
      x.tell(one, 0, one == 0 ? 60 : one == 1 ? 50 : 3);
      x.tell(one, 2, one == 2 ? 7 : one);
    }
    text(x, TEXT, "has 3 1");
    x.square(TEXT);
    x.rule(1);
    x.cast(0, 8);
    x.image();
    x.cost(2, 30);
    x.cast(1, 7);
    write(x, DAY, 2, 0, 5, 1, 4, 2, 99);
    x.show(PIECE, 1);
    write(x, LONGS, 3, 1L << 40, -1);
    x.row(ZEROS, 2, 90);
    write(x, BYTES, 0, 0, 0);
    text(x, TEXT, "bex");
    x.square(TEXT);
    x.row(EMPTY, 2, 0);
    x.act(3, 2, 5);
    return x;
  }

  private static long[] seenOfSquare(FountainGivesChange x) {
    int pieces = x.status(0);
    int people = x.status(1);
    long[] seen = new long[9 + 6 * 9 + 5 * 6 + 8];
    int at = 0;
    for (int what = 0; what < 9; what++) {
      seen[at++] = x.status(what);
    }
    for (int i = 0; i < 6 * pieces; i++) {
      seen[at++] = x.pieceOf(i / 6, i % 6);
    }
    for (int i = 0; i < 5 * people; i++) {
      seen[at++] = x.personOf(i / 5, i % 5);
    }
    for (int wish = 0; wish < 8 && people > 0; wish++) {
      seen[at++] = x.price(0, wish);
    }
    return seen;
  }

  private static long[] seenBeside(FountainGivesChange x) {
    long[] seen = new long[8 + 8 * 7 + 1 + 1 + 11];
    int at = 0;
    for (int s = 0; s < 8; s++) {
      seen[at++] = x.holds(s);
      for (int i = 0; i < 7; i++) {
        seen[at++] = x.element(s, i);
      }
    }
    seen[at++] = x.fault();
    seen[at++] = x.status(9);
    for (int i = 0; i < 11; i++) {
      seen[at++] = x.trace(i);
    }
    return seen;
  }

  private static void same(String what, long[] got, long[] due) {
    for (int i = 0; i < due.length; i++) {
      c.due(what + ", unchanged " + i, got[i], due[i]);
    }
  }

  private static void nothingBehind(String what, FountainGivesChange x, FountainGivesChange y, int why) {
    for (int w = 1; w <= 7; w++) {
      c.due(what + ", how many -" + w, x.status(10 + w), y.status(10 + w) + (w == why ? 1 : 0));
    }
    same(what, seenOfSquare(x), seenOfSquare(y));
    same(what, seenBeside(x), seenBeside(y));
    int had = y.restore();
    c.due(what + ", restore", x.restore(), had);
    same(what + ", of the image", seenOfSquare(x), seenOfSquare(y));
  }

  private static void refused(String what, Call call, int answer, int why) {
    refusedBehind(what, x -> 0, call, answer, why);
  }

  private static void refusedEach(String what, int[] all, CallWith call, int answer, int why) {
    for (int v : all) {
      refused(what + " " + v, x -> call.on(x, v), answer, why);
    }
  }

  private static void refusedBehind(String what, Call ahead, Call call, int answer, int why) {
    FountainGivesChange x = stage();
    FountainGivesChange y = stage();
    ahead.on(x);
    ahead.on(y);
    c.due(what, call.on(x), answer);
    nothingBehind(what, x, y, why);
  }

  /** It isn't refused: the answer is as due, and no refusal is counted. */
  private static void taken(String what, Call call, long answer) {
    FountainGivesChange x = stage();
    FountainGivesChange y = stage();
    c.due(what, call.on(x), answer);
    for (int w = 1; w <= 7; w++) {
      c.due(what + ", how many -" + w, x.status(10 + w), y.status(10 + w));
    }
  }

  private static void takenWithin(String what, int least, int most, CallWith call, long answer) {
    taken(what + " " + least, x -> call.on(x, least), answer);
    taken(what + " " + most, x -> call.on(x, most), answer);
  }

  // ---- SHELVES

  private static void row() {
    c.about("promise 2, refused");
    refusedEach("no shelf", NO_SHELVES, (x, s) -> x.row(s, 0, 5), -1, 1);
    refused("shelf before below and sort", x -> x.row(8, 4, -1), -1, 1);
    refused("shelf before room", x -> x.row(-1, 0, 161), -1, 1);
    refusedEach("below", BELOW, (x, n) -> x.row(LONGS, 3, n), -4, 4);
    refused("below before sort", x -> x.row(LONGS, -1, -1), -4, 4);
    refusedEach("no sort", new int[] {-1, 4, MIN, MAX}, (x, sort) -> x.row(LONGS, sort, 2), -6, 6);
    refused("sort before room", x -> x.row(LONGS, 4, 161), -6, 6);
    refusedEach("room", new int[] {161, MAX}, (x, n) -> x.row(LONGS, 3, n), -7, 7);
    refused("room, on a piece", x -> x.row(PIECE, 3, 161), -7, 7);
    refused("below, on nothing", x -> x.row(NOTHING, 3, -1), -4, 4);
    takenWithin("shelf", 0, 7, (x, s) -> x.row(s, 0, 5), 1);
    takenWithin("sort", 0, 3, (x, sort) -> x.row(LONGS, sort, 5), 1);
    takenWithin("size", 0, 160, (x, n) -> x.row(LONGS, 2, n), 1);
    taken("on a piece", x -> x.row(PIECE, 2, 5), 1);
  }

  private static void set() {
    c.about("promise 3, refused");
    refusedEach("no shelf", NO_SHELVES, (x, s) -> x.set(s, 0, 7), -1, 1);
    refused("shelf before beyond", x -> x.set(8, -1, 7), -1, 1);
    refused("a piece", x -> x.set(PIECE, 0, 7), -2, 2);
    refused("a piece before beyond", x -> x.set(PIECE, -1, 7), -2, 2);
    refused("nothing", x -> x.set(NOTHING, 0, 7), -3, 3);
    refused("nothing before beyond", x -> x.set(NOTHING, 160, 7), -3, 3);
    refusedEach("no element", new int[] {-1, 2, MIN, MAX}, (x, i) -> x.set(LONGS, i, 7), -5, 5);
    refused("an empty row", x -> x.set(EMPTY, 0, 7), -5, 5);
    takenWithin("element", 0, 1, (x, i) -> x.set(LONGS, i, 7), 1);
    takenWithin("element", 0, 89, (x, i) -> x.set(ZEROS, i, Long.MIN_VALUE), 1);
  }

  private static void copy() {
    c.about("promise 4, refused");
    refusedEach("no shelf p", NO_SHELVES, (x, p) -> x.copy(p, ZEROS, 0, 0, 1), -1, 1);
    refusedEach("no shelf q", NO_SHELVES, (x, q) -> x.copy(ZEROS, q, 0, 0, 1), -1, 1);
    refused("shelf p before a piece in q", x -> x.copy(8, PIECE, 0, 0, 1), -1, 1);
    refused("shelf q before a piece in p", x -> x.copy(PIECE, 8, 0, 0, 1), -1, 1);
    refused("shelf q before nothing in p", x -> x.copy(NOTHING, -1, 0, 0, -1), -1, 1);
    refused("a piece in p", x -> x.copy(PIECE, DAY, 0, 0, 0), -2, 2);
    refused("a piece in q", x -> x.copy(DAY, PIECE, 0, 0, 0), -2, 2);
    refused("a piece in both", x -> x.copy(PIECE, PIECE, 0, 0, 0), -2, 2);
    refused("a piece in p before nothing in q", x -> x.copy(PIECE, NOTHING, 0, 0, 0), -2, 2);
    refused("a piece in q before nothing in p", x -> x.copy(NOTHING, PIECE, 0, 0, 0), -2, 2);
    refused("a piece before below", x -> x.copy(DAY, PIECE, 0, 0, -1), -2, 2);
    for (int p : new int[] {DAY, LONGS, BYTES, TEXT}) {
      for (int q : new int[] {DAY, LONGS, BYTES, TEXT}) {
        if (p != q) {
          refused("two sorts, " + p + " and " + q, x -> x.copy(p, q, 0, 0, 1), -2, 2);
        }
      }
    }
    refused("two sorts, of no elements", x -> x.copy(DAY, LONGS, 0, 0, 0), -2, 2);
    refused("two sorts before below and beyond", x -> x.copy(DAY, LONGS, -1, 9, -1), -2, 2);
    refused("nothing in p", x -> x.copy(NOTHING, DAY, 0, 0, 0), -3, 3);
    refused("nothing in q", x -> x.copy(DAY, NOTHING, 0, 0, 0), -3, 3);
    refused("nothing in both", x -> x.copy(NOTHING, NOTHING, 0, 0, 0), -3, 3);
    refused("nothing before below", x -> x.copy(DAY, NOTHING, 0, 0, -1), -3, 3);
    refusedEach("below", BELOW, (x, n) -> x.copy(DAY, ZEROS, 0, 0, n), -4, 4);
    refused("below before beyond", x -> x.copy(DAY, ZEROS, -1, -1, -1), -4, 4);
    refused("below before an end", x -> x.copy(DAY, ZEROS, 7, 91, -1), -4, 4);
    refusedEach("i below", BELOW, (x, i) -> x.copy(DAY, ZEROS, i, 0, 1), -5, 5);
    refusedEach("j below", BELOW, (x, j) -> x.copy(ZEROS, DAY, 0, j, 1), -5, 5);
    refused("none of them, i below", x -> x.copy(DAY, ZEROS, -1, 0, 0), -5, 5);
    refused("none of them, j below", x -> x.copy(DAY, ZEROS, 0, -1, 0), -5, 5);
    refused("none of them, i beyond the end", x -> x.copy(DAY, ZEROS, 7, 0, 0), -5, 5);
    refused("none of them, j beyond the end", x -> x.copy(ZEROS, DAY, 0, 7, 0), -5, 5);
    refused("the end of p", x -> x.copy(DAY, ZEROS, 0, 0, 7), -5, 5);
    refused("the end of p, behind the first", x -> x.copy(DAY, ZEROS, 4, 0, 3), -5, 5);
    refused("the end of q", x -> x.copy(ZEROS, DAY, 0, 0, 7), -5, 5);
    refused("the end of q, behind the first", x -> x.copy(ZEROS, DAY, 0, 4, 3), -5, 5);
    refused("its own end", x -> x.copy(DAY, DAY, 0, 1, 6), -5, 5);
    refused("ends that wrap around", x -> x.copy(DAY, ZEROS, 1, 1, MAX), -5, 5);
    refused("ends that wrap around", x -> x.copy(DAY, ZEROS, MAX, MAX, MAX), -5, 5);
    refused("i and n that make 0", x -> x.copy(DAY, ZEROS, MIN, 0, MAX), -5, 5);
    taken("all of p to the end of q", x -> x.copy(DAY, ZEROS, 0, 84, 6), 1);
    taken("none of them, at both ends", x -> x.copy(DAY, ZEROS, 6, 90, 0), 1);
    taken("none of an empty row", x -> x.copy(EMPTY, EMPTY, 0, 0, 0), 1);
    taken("onto itself", x -> x.copy(DAY, DAY, 0, 0, 6), 1);
  }

  private static void show() {
    c.about("promise 6, refused");
    refusedEach("no shelf", NO_SHELVES, (x, s) -> x.show(s, 0), -1, 1);
    refusedEach("no shelf, nothing", NO_SHELVES, (x, s) -> x.show(s, NONE), -1, 1);
    refusedEach("no piece", new int[] {-2, 5, MIN, MAX}, (x, piece) -> x.show(DAY, piece), -1, 1);
    refusedEach("no piece, on a piece", new int[] {-2, 5, 9}, (x, piece) -> x.show(PIECE, piece), -1, 1);
    takenWithin("shelf", 0, 7, (x, s) -> x.show(s, 0), 1);
    takenWithin("piece", 0, 4, (x, piece) -> x.show(DAY, piece), 1);
    taken("nothing, over a row", x -> x.show(DAY, NONE), 0);
    taken("nothing, over nothing", x -> x.show(NOTHING, NONE), 0);
  }

  private static void says() {
    c.about("promise 8, refused");
    refusedEach("no shelf", NO_SHELVES, (x, s) -> x.says(s, 0), -1, 1);
    refusedEach("no kind, of a piece", NO_KINDS, (x, kind) -> x.says(PIECE, kind), -1, 1);
    refusedEach("no kind, of a row", NO_KINDS, (x, kind) -> x.says(DAY, kind), -1, 1);
    refusedEach("no kind, of nothing", NO_KINDS, (x, kind) -> x.says(NOTHING, kind), -1, 1);
    for (int kind = 0; kind < 7; kind++) {
      int of = kind;
      refused("a row as " + kind, x -> x.says(DAY, of), -2, 2);
      refused("an empty row as " + kind, x -> x.says(EMPTY, of), -2, 2);
      refused("nothing as " + kind, x -> x.says(NOTHING, of), -3, 3);
      if (kind > 1) {
        refused("a cough as " + kind, x -> x.says(PIECE, of), -2, 2);
      }
    }
    takenWithin("a cough", 0, 0, (x, kind) -> x.says(PIECE, kind), 8);
    takenWithin("a cough", 1, 1, (x, kind) -> x.says(PIECE, kind), 3);
  }

  // ---- what there is

  private static void piece() {
    c.about("promise 9, refused");
    refusedEach("no kind", NO_KINDS, (x, kind) -> x.piece(kind, 0, 1), -1, 1);
    refused("kind before a", x -> x.piece(7, -1, 0), -1, 1);
    refusedEach("a", new int[] {-1, 10, MIN, MAX}, (x, a) -> x.piece(0, a, 1), -6, 6);
    refusedEach("base", new int[] {0, 51, -1, MIN, MAX}, (x, base) -> x.piece(0, 0, base), -6, 6);
    Call fill = x -> x.piece(1, 1, 1) + x.piece(2, 2, 2) + x.piece(3, 3, 3) + x.piece(5, 9, 50);
    refusedBehind("kind before room", fill, x -> x.piece(7, 0, 1), -1, 1);
    refusedBehind("a before room", fill, x -> x.piece(0, 10, 1), -6, 6);
    refusedBehind("base before room", fill, x -> x.piece(0, 0, 0), -6, 6);
    refusedBehind("room", fill, x -> x.piece(0, 0, 1), -7, 7);
    taken("the ninth", x -> x.piece(1, 1, 1) + x.piece(2, 2, 2) + x.piece(3, 3, 3) + 10 * x.piece(6, 9, 50), 98);
    takenWithin("kind", 0, 6, (x, kind) -> x.piece(kind, 0, 1), 5);
    takenWithin("a", 0, 9, (x, a) -> x.piece(0, a, 1), 5);
    takenWithin("base", 1, 50, (x, base) -> x.piece(0, 0, base), 5);
  }

  private static void person() {
    c.about("promise 10, refused");
    refusedEach("no wish", NO_WISHES, (x, want) -> x.person(0, 0, want), -1, 1);
    refused("wish before purse and luck", x -> x.person(100, 10, 8), -1, 1);
    refusedEach("purse", NO_AMOUNTS, (x, purse) -> x.person(purse, 0, 0), -6, 6);
    refusedEach("luck", new int[] {-1, 10, MIN, MAX}, (x, luck) -> x.person(0, luck, 0), -6, 6);
    Call fill = x -> x.person(1, 1, 1) + x.person(2, 2, 2) + x.person(99, 9, 7);
    refusedBehind("wish before room", fill, x -> x.person(0, 0, 8), -1, 1);
    refusedBehind("purse before room", fill, x -> x.person(100, 0, 0), -6, 6);
    refusedBehind("luck before room", fill, x -> x.person(0, -1, 0), -6, 6);
    refusedBehind("room", fill, x -> x.person(0, 0, 0), -7, 7);
    taken("the sixth", x -> x.person(1, 1, 1) + x.person(2, 2, 2) + 10 * x.person(99, 9, 7), 57);
    takenWithin("purse", 0, 99, (x, purse) -> x.person(purse, 0, 0), 3);
    takenWithin("luck", 0, 9, (x, luck) -> x.person(0, luck, 0), 3);
    takenWithin("want", 0, 7, (x, want) -> x.person(0, 0, want), 3);
  }

  private static void cost() {
    c.about("promise 11, refused");
    refusedEach("no wish", NO_WISHES, (x, wish) -> x.cost(wish, 1), -1, 1);
    refused("wish before v", x -> x.cost(8, 0), -1, 1);
    refusedEach("v", new int[] {0, 61, -1, MIN, MAX}, (x, v) -> x.cost(3, v), -6, 6);
    takenWithin("v", 1, 60, (x, v) -> x.cost(3, v), 8);
    taken("the first", x -> x.cost(0, 60), 5);
    taken("the last", x -> x.cost(7, 60), 12);
  }

  private static void rule() {
    c.about("promise 12, refused");
    refusedEach("v", NO_TWO, (x, v) -> x.rule(v), -6, 6);
    takenWithin("v", 0, 1, (x, v) -> x.rule(v), 1);
  }

  private static void tell() {
    c.about("promise 13, refused");
    for (int what = -1; what < 4; what++) {
      int of = what;
      refusedEach("nobody, of " + what, NO_PEOPLE, (x, person) -> x.tell(person, of, 0), -1, 1);
      refusedEach("nobody before v, of " + what, NO_PEOPLE, (x, person) -> x.tell(person, of, -1), -1, 1);
    }
    refusedEach("no wish", NO_WISHES, (x, v) -> x.tell(1, 2, v), -1, 1);
    refusedEach("what", new int[] {-1, 3, MIN, MAX}, (x, what) -> x.tell(1, what, 0), -6, 6);
    refusedEach("purse", NO_AMOUNTS, (x, v) -> x.tell(1, 0, v), -6, 6);
    refusedEach("luck", new int[] {-1, 10, MIN, MAX}, (x, v) -> x.tell(1, 1, v), -6, 6);
    takenWithin("purse", 0, 99, (x, v) -> x.tell(1, 0, v), 43);
    takenWithin("luck", 0, 9, (x, v) -> x.tell(1, 1, v), 2);
    takenWithin("want", 0, 7, (x, v) -> x.tell(1, 2, v), 1);
    takenWithin("the last of them", 0, 99, (x, v) -> x.tell(2, 0, v), 3);
  }

  private static void pieceOf() {
    c.about("promise 14, refused");
    refusedEach("no piece", NO_PIECES, (x, piece) -> x.pieceOf(piece, 0), -5, 5);
    refusedEach("what", new int[] {-1, 6, MIN, MAX}, (x, what) -> x.pieceOf(0, what), -5, 5);
    refused("both: counted once", x -> x.pieceOf(5, 6), -5, 5);
    taken("the last, the last", x -> x.pieceOf(4, 5), 99);
    taken("the last, the first", x -> x.pieceOf(4, 0), 4);
  }

  private static void personOf() {
    c.about("promise 15, refused");
    refusedEach("nobody", NO_PEOPLE, (x, person) -> x.personOf(person, 0), -5, 5);
    refusedEach("what", new int[] {-1, 5, MIN, MAX}, (x, what) -> x.personOf(0, what), -5, 5);
    refused("both: counted once", x -> x.personOf(3, 5), -5, 5);
    taken("the second, the last", x -> x.personOf(1, 4), 12);
    taken("the last, the first", x -> x.personOf(2, 0), 3);
  }

  private static void square() {
    c.about("promises 16, 17, refused");
    refusedEach("no shelf", NO_SHELVES, (x, s) -> x.square(s), -1, 1);
    refused("a piece", x -> x.square(PIECE), -2, 2);
    refused("nothing", x -> x.square(NOTHING), -3, 3);
    refused("a fault, the same as ahead", x -> x.square(TEXT), -6, 6);
    String told = "piece 2 9 50;person 1 1 1;back 0;has 1 2;cost 3 60;best;";
    for (String bad : new String[] {"piece 7", "person 9 10", "cost 0 0", "has 9 0", "back 4", "x", ""}) {
      FountainGivesChange x = stage();
      FountainGivesChange y = stage();
      text(x, EMPTY, told + bad);
      text(y, EMPTY, told + bad);
      c.due("told, then " + bad, x.square(EMPTY), -6);
      c.due("one more -6", x.status(16), y.status(16) + 1);
      same("told, then " + bad, seenOfSquare(x), seenOfSquare(y));
      same("image", new long[] {x.restore()}, new long[] {y.restore()});
      same("told, then " + bad, seenOfSquare(x), seenOfSquare(y));
    }
    FountainGivesChange x = stage();
    x.square(EMPTY);
    c.due("an empty row", x.fault(), 0);
    for (int s : new int[] {-1, 8, PIECE, NOTHING}) {
      x.square(s);
      c.due("what came to no row leaves the fault", x.fault(), 0);
    }
  }

  // ---- what comes of it

  private static void price() {
    c.about("promise 18, refused");
    refusedEach("nobody", NO_PEOPLE, (x, person) -> x.price(person, 0), -1, 1);
    refusedEach("no wish", NO_WISHES, (x, wish) -> x.price(0, wish), -1, 1);
    refused("both: counted once", x -> x.price(3, 8), -1, 1);
    taken("the last wish, the last one", x -> x.price(2, 7), 12);
    taken("the first wish, the last one", x -> x.price(2, 0), 7);
  }

  private static void change() {
    c.about("promise 19, refused");
    refusedEach("what", NO_TWO, (x, what) -> x.change(0, what), -15, 5);
    refused("what before c", x -> x.change(-1, 2), -15, 5);
    refused("what before c", x -> x.change(100, -1), -15, 5);
    refusedEach("c, by the best", NO_AMOUNTS, (x, n) -> x.change(n, 0), -16, 6);
    refusedEach("c, by the greedy", NO_AMOUNTS, (x, n) -> x.change(n, 1), -16, 6);
    takenWithin("0", 0, 1, (x, what) -> x.change(0, what), 0);
    takenWithin("99", 0, 1, (x, what) -> x.change(99, what), NONE);
  }

  private static void harm() {
    c.about("promise 20, refused");
    refusedEach("nobody", NO_PEOPLE, (x, person) -> x.harm(person, 5), -11, 1);
    refused("nobody before n", x -> x.harm(3, 100), -11, 1);
    refusedEach("n", NO_AMOUNTS, (x, n) -> x.harm(0, n), -16, 6);
    takenWithin("n", 0, 99, (x, n) -> x.harm(0, n), NONE);
    taken("a throw", x -> x.harm(0, 9), 3);
  }

  private static void best() {
    c.about("promise 21, refused");
    refusedEach("nobody", NO_PEOPLE, (x, person) -> x.best(person, 0), -11, 1);
    refused("nobody before what", x -> x.best(3, 2), -11, 1);
    refusedEach("what", NO_TWO, (x, what) -> x.best(0, what), -15, 5);
    refusedEach("what, of one who has none", NO_TWO, (x, what) -> x.best(2, what), -15, 5);
    takenWithin("he has none", 0, 1, (x, what) -> x.best(2, what), NONE);
    taken("the price", x -> x.best(1, 0), 4);
  }

  private static void fails() {
    c.about("promise 22, refused");
    refusedEach("what", NO_TWO, (x, what) -> x.fails(what), -15, 5);
    takenWithin("what", 0, 1, (x, what) -> x.fails(what), NONE);
  }

  private static void amounts() {
    c.about("promise 23, refused");
    refusedEach("what", NO_TWO, (x, what) -> x.amounts(what), -5, 5);
    takenWithin("what", 0, 1, (x, what) -> x.amounts(what), 3);
  }

  private static void run() {
    c.about("promise 24, refused");
    refusedEach("no such i", new int[] {-2, 3, 6, MIN, MAX}, (x, i) -> x.run(i), -5, 5);
    taken("how many", x -> x.run(NONE), 2);
    taken("the first", x -> x.run(0), 0);
    taken("the last", x -> x.run(2), 2);
    FountainGivesChange x = new FountainGivesChange();
    c.due("nobody, how many", x.run(NONE), 0);
    c.due("nobody, the first", x.run(0), -5);
    c.due("counted", x.status(15), 1);
  }

  private static void rules() {
    c.about("promise 25, refused");
    refusedEach("no shelf", NO_SHELVES, (x, s) -> x.rules(s, 0), -1, 1);
    refused("shelf before below", x -> x.rules(8, -1), -1, 1);
    refused("a piece", x -> x.rules(PIECE, 0), -2, 2);
    refused("a piece before below", x -> x.rules(PIECE, -1), -2, 2);
    refused("nothing", x -> x.rules(NOTHING, 0), -3, 3);
    refused("nothing before below", x -> x.rules(NOTHING, -1), -3, 3);
    refusedEach("below", BELOW, (x, n) -> x.rules(ZEROS, n), -4, 4);
    refusedEach("fewer elements", new int[] {4, 41, 1 << 30, (1 << 30) + 1, MAX}, (x, n) -> x.rules(DAY, n), -5, 5);
    refusedBehind("one element too few", x -> x.row(DAY, 2, 5), x -> x.rules(DAY, 3), -5, 5);
    refused("an empty row", x -> x.rules(EMPTY, 1), -5, 5);
    refused("fewer before a c that may not be", x -> x.rules(LONGS, 2), -5, 5);
    refusedEach("above 40", new int[] {41, 45}, (x, n) -> x.rules(ZEROS, n), -6, 6);
    for (int told : NO_AMOUNTS) {
      refusedBehind("a c that may not be " + told, x -> x.set(ZEROS, 0, told), x -> x.rules(ZEROS, 1), -6, 6);
      refusedBehind("the last of forty " + told, x -> x.set(ZEROS, 78, told), x -> x.rules(ZEROS, 40), -6, 6);
      taken("not told " + told, x -> x.set(ZEROS, 78, told) == 1 ? x.rules(ZEROS, 39) : 0, 3);
    }
    takenWithin("none, forty", 0, 40, (x, n) -> x.rules(ZEROS, n), 3);
    taken("none of an empty row", x -> x.rules(EMPTY, 0), 3);
    taken("c 99", x -> x.set(ZEROS, 0, 99) + x.set(ZEROS, 1, NONE) + x.rules(ZEROS, 1), 5);
  }

  private static void costs() {
    c.about("promise 26, refused");
    refusedEach("no shelf", NO_SHELVES, (x, s) -> x.costs(s, 0, 0, 0), -11, 1);
    refusedEach("no wish", NO_WISHES, (x, wish) -> x.costs(ZEROS, 0, wish, 0), -11, 1);
    refused("shelf before below and what", x -> x.costs(8, -1, 0, 2), -11, 1);
    refused("wish before a piece", x -> x.costs(PIECE, 0, 8, 0), -11, 1);
    refused("wish before nothing", x -> x.costs(NOTHING, 0, -1, 0), -11, 1);
    refused("wish before below", x -> x.costs(ZEROS, -1, 8, 0), -11, 1);
    refused("wish before beyond", x -> x.costs(ZEROS, 46, 8, 2), -11, 1);
    refused("wish before above 40", x -> x.costs(ZEROS, 41, 8, 0), -11, 1);
    refused("a piece", x -> x.costs(PIECE, 0, 0, 0), -12, 2);
    refused("a piece before below and what", x -> x.costs(PIECE, -1, 0, 2), -12, 2);
    refused("nothing", x -> x.costs(NOTHING, 0, 0, 0), -13, 3);
    refused("nothing before below and what", x -> x.costs(NOTHING, -1, 0, 2), -13, 3);
    refusedEach("below", BELOW, (x, n) -> x.costs(ZEROS, n, 0, 0), -14, 4);
    refused("below before what", x -> x.costs(ZEROS, -1, 0, 2), -14, 4);
    refusedEach("fewer elements", new int[] {46, 1 << 30, MAX}, (x, n) -> x.costs(ZEROS, n, 0, 0), -15, 5);
    refused("fewer before above 40", x -> x.costs(DAY, 41, 0, 0), -15, 5);
    refusedEach("what", NO_TWO, (x, what) -> x.costs(ZEROS, 0, 0, what), -15, 5);
    refused("what before above 40", x -> x.costs(ZEROS, 41, 0, 2), -15, 5);
    refusedEach("above 40", new int[] {41, 45}, (x, n) -> x.costs(ZEROS, n, 0, 0), -16, 6);
    for (int one : NO_PEOPLE) {
      Call told = x -> x.set(ZEROS, 0, one);
      refusedBehind("nobody " + one, told, x -> x.costs(ZEROS, 1, 0, 0), -11, 1);
      refusedBehind("nobody, the last of forty " + one, x -> x.set(ZEROS, 78, one), x -> x.costs(ZEROS, 40, 0, 1), -11, 1);
      refusedBehind("above 40 before nobody " + one, told, x -> x.costs(ZEROS, 41, 0, 0), -16, 6);
      refusedBehind("what before nobody " + one, told, x -> x.costs(ZEROS, 1, 0, 2), -15, 5);
      refusedBehind("fewer before nobody " + one, told, x -> x.costs(ZEROS, 46, 0, 0), -15, 5);
      refusedBehind("below before nobody " + one, told, x -> x.costs(ZEROS, -1, 0, 0), -14, 4);
      taken("he isn't told " + one, x -> x.set(ZEROS, 0, one) * x.costs(ZEROS, 0, 0, 0), 60);
    }
    takenWithin("what", 0, 1, (x, what) -> x.costs(ZEROS, 40, 0, what), 0, NONE);
    takenWithin("wish", 0, 7, (x, wish) -> x.costs(EMPTY, 0, wish, 0), 60);
  }

  private static void takenWithin(String what, int least, int most, CallWith call, long first, long last) {
    taken(what + " " + least, x -> call.on(x, least), first);
    taken(what + " " + most, x -> call.on(x, most), last);
  }

  private static void dear() {
    c.about("promise 27, refused");
    refusedEach("what", NO_TWO, (x, what) -> x.dear(what), -15, 5);
    takenWithin("what", 0, 1, (x, what) -> x.dear(what), 1, 0);
  }

  private static void rich() {
    c.about("promise 28, refused");
    refusedEach("nobody", NO_PEOPLE, (x, person) -> x.rich(person), -1001, 1);
    takenWithin("one", 0, 2, (x, person) -> x.rich(person), 55, 3);
  }

  // ---- told days, and in truth

  private interface Day {
    int on(FountainGivesChange x, int s, int n);
  }

  private static void dayRefused(Day day, int apart) {
    refusedEach("no shelf", NO_SHELVES, (x, s) -> day.on(x, s, 0), -1 - apart, 1);
    refused("shelf before below", x -> day.on(x, 8, -1), -1 - apart, 1);
    refused("a piece", x -> day.on(x, PIECE, 0), -2 - apart, 2);
    refused("a piece before below", x -> day.on(x, PIECE, -1), -2 - apart, 2);
    refused("nothing", x -> day.on(x, NOTHING, 0), -3 - apart, 3);
    refused("nothing before below", x -> day.on(x, NOTHING, -1), -3 - apart, 3);
    refusedEach("below", BELOW, (x, n) -> day.on(x, DAY, n), -4 - apart, 4);
    refusedEach("fewer elements", new int[] {4, 21, 1 << 30, (1 << 30) + 1, MAX}, (x, n) -> day.on(x, DAY, n), -5 - apart, 5);
    refused("an empty row", x -> day.on(x, EMPTY, 1), -5 - apart, 5);
    refused("fewer, though the first is wrong", x -> day.on(x, LONGS, 2), -5 - apart, 5);
    refusedBehind("one element too few", x -> x.row(DAY, 2, 3), x -> day.on(x, DAY, 2), -5 - apart, 5);
    refusedEach("above 20", new int[] {21, 45}, (x, n) -> day.on(x, ZEROS, n), -6 - apart, 6);
  }

  private static void judge() {
    c.about("promise 29, refused");
    dayRefused((x, s, n) -> x.judge(s, n), 10);
    takenWithin("none, two", 0, 2, (x, n) -> x.judge(DAY, n), NONE);
    taken("the third", x -> x.judge(DAY, 3), 2);
    taken("twenty, and the first is none", x -> x.judge(ZEROS, 20), 0);
    taken("none of an empty row", x -> x.judge(EMPTY, 0), NONE);
  }

  private static void behind() {
    c.about("promise 30, refused");
    for (int what = 0; what < 3; what++) {
      int of = what;
      dayRefused((x, s, n) -> x.behind(s, n, of), 0);
      refused("wrong", x -> x.behind(DAY, 3, of), -6, 6);
      refused("wrong from the first on", x -> x.behind(ZEROS, 20, of), -6, 6);
      taken("none of an empty row", x -> x.behind(EMPTY, 0, of), 0);
      taken("two", x -> x.behind(DAY, 2, of), of == 0 ? 2 : of == 1 ? 0 : 9);
    }
    refusedEach("what", new int[] {-1, 3, MIN, MAX}, (x, what) -> x.behind(DAY, 0, what), -5, 5);
    refused("shelf before what", x -> x.behind(-1, 0, 3), -1, 1);
    refused("a piece before what", x -> x.behind(PIECE, 0, 3), -2, 2);
    refused("nothing before what", x -> x.behind(NOTHING, 0, 3), -3, 3);
    refused("below before what", x -> x.behind(DAY, -1, 3), -4, 4);
    refused("what before above 20", x -> x.behind(ZEROS, 21, 3), -5, 5);
    refused("what before wrong", x -> x.behind(DAY, 3, 3), -5, 5);
  }

  private static void done() {
    c.about("promise 31, refused");
    dayRefused((x, s, n) -> x.done(s, n), 0);
    refused("wrong behind two throws", x -> x.done(DAY, 3), -6, 6);
    refused("wrong from the first on", x -> x.done(ZEROS, 20), -6, 6);
    taken("none", x -> x.done(EMPTY, 0) - x.status(5), 0);
    taken("two", x -> -x.status(5) + x.done(DAY, 2), 9);
  }

  private static void cast() {
    c.about("promise 32, refused");
    refusedEach("nobody", NO_PEOPLE, (x, person) -> x.cast(person, 5), -1, 1);
    refused("nobody before n", x -> x.cast(3, 100), -1, 1);
    refusedEach("no such n", NO_AMOUNTS, (x, n) -> x.cast(0, n), -6, 6);
    refusedEach("below the price", new int[] {0, 4}, (x, n) -> x.cast(0, n), -6, 6);
    refusedEach("there is no change", new int[] {7, 8, 11, 52}, (x, n) -> x.cast(0, n), -6, 6);
    refused("he hasn't it", x -> x.cast(2, 12), -6, 6);
    refusedBehind("he has one less", x -> x.tell(0, 0, 8), x -> x.cast(0, 9), -6, 6);
    taken("the price", x -> x.cast(0, 5), 0);
    taken("all that he has", x -> x.tell(0, 0, 9) * 0 + x.cast(0, 9), 2);
    taken("all that there is", x -> x.cast(0, 10), 18);
  }

  private static void back() {
    c.about("promise 33, refused");
    refusedEach("no piece", NO_PIECES, (x, piece) -> x.back(piece), -1, 1);
    refusedEach("in the basin", new int[] {1, 4}, (x, piece) -> x.back(piece), -6, 6);
    takenWithin("of the first, of the second", 0, 2, (x, piece) -> x.back(piece), 0, 1);
  }

  private static void days() {
    c.about("promise 34, refused");
    refusedEach("n", new int[] {0, 41, -1, MIN, MAX}, (x, n) -> x.days(n), -6, 6);
    taken("one", x -> x.days(1) * 0 + x.status(6), 2);
    taken("forty", x -> x.days(40) * 0 + x.status(6), 41);
    for (int n : new int[] {0, 1, 40, 41, -1}) {
      FountainGivesChange x = new FountainGivesChange();
      x.piece(0, 0, 1);
      c.due("nobody, before n " + n, x.days(n), -5);
      c.due("counted", x.status(15) * 10 + x.status(16), 10);
      c.due("no day, no draw", x.status(6) + x.status(8), 1);
    }
  }

  private static void restore() {
    c.about("promise 39, refused");
    FountainGivesChange x = new FountainGivesChange();
    x.piece(0, 0, 5);
    x.person(9, 0, 0);
    x.show(0, 0);
    long[] ahead = seenOfSquare(x);
    c.due("there is none", x.restore(), -6);
    c.due("counted", x.status(16), 1);
    same("there is none", seenOfSquare(x), ahead);
    c.due("shelf", x.holds(0), 0);
    taken("there is one", y -> y.restore(), 5);
  }

  private static void neverRefused() {
    c.about("promises 5, 7, 17, 35 to 38, 40");
    int[] odd = {-1, 8, 9, 20, 160, MIN, MAX};
    for (int v : odd) {
      taken("element, shelf " + v, x -> x.element(v, 0), 0);
      taken("element " + v, x -> x.element(LONGS, v), 0);
      taken("element of a piece " + v, x -> x.element(PIECE, v), 0);
      taken("element of nothing " + v, x -> x.element(NOTHING, v), 0);
      taken("holds " + v, x -> x.holds(v), NONE);
      taken("seed " + v, x -> x.seed(v) * 0 + x.status(8), v);
      taken("act, piece " + v, x -> x.act(v, 0, 5), 0);
      taken("act, move " + v, x -> x.act(0, v, 5), 0);
      taken("trace " + v, x -> x.trace(v), v == 8 ? 51 : v == 9 ? 10 : NONE);
      taken("status " + v, x -> x.seed(5) * 0 + x.status(v), v == 8 ? 5 : v == 9 ? 10 : NONE);
    }
    taken("status between", x -> x.status(10), NONE);
    taken("status behind", x -> x.status(18), NONE);
    taken("image", x -> x.image(), 5);
    taken("fault", x -> x.fault(), 2);
  }
}
