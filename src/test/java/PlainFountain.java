import java.util.ArrayList;
import java.util.List;
import java.util.regex.Matcher;
import java.util.regex.Pattern;

/**
 * The document's words one by one, without regard to speed: all sets of PIECES, all n, all orders,
 * MOVES by Java's own super, FAULTS by which beginnings of a text can go on. It is what
 * RandomRunsTest holds the program against, so it shares none of the program's shortcuts.
 */
final class PlainFountain {
  static final int NONE = -1;

  // ---- PIECES, with their MOVES as Java itself sends them

  private static List<Integer> traced = new ArrayList<>();

  private static class Piece {
    final int m;
    final int k;
    final int base;

    Piece(int m, int k, int base) {
      this.m = m;
      this.k = k;
      this.base = base;
    }

    int kind() {
      return 0;
    }

    int worth() {
      return base;
    }

    int harm() {
      return 0;
    }

    int falls(int x) {
      traced.add(10);
      return x + m;
    }

    int rings(int x) {
      traced.add(11);
      return falls(x) * 2;
    }

    int sinks(int x) {
      traced.add(12);
      return rings(x) ^ falls(x - k);
    }
  }

  private static class Cough extends Piece {
    Cough(int m, int k, int base) {
      super(m, k, base);
    }

    @Override
    int kind() {
      return 1;
    }

    @Override
    int worth() {
      return (int) Math.ceil(base / 2.0);
    }

    @Override
    int harm() {
      return k;
    }

    @Override
    int falls(int x) {
      traced.add(20);
      return super.falls(x) + k;
    }
  }

  private static class Canary extends Piece {
    Canary(int m, int k, int base) {
      super(m, k, base);
    }

    @Override
    int kind() {
      return 2;
    }

    @Override
    int worth() {
      return base + k;
    }

    @Override
    int rings(int x) {
      traced.add(30);
      return super.rings(x) * 3;
    }
  }

  private static final class Wheeze extends Cough {
    Wheeze(int m, int k, int base) {
      super(m, k, base);
    }

    @Override
    int kind() {
      return 3;
    }

    @Override
    int worth() {
      int less = super.worth() - k;
      return less < 1 ? 1 : less;
    }

    @Override
    int harm() {
      return super.harm() * 2;
    }

    @Override
    int falls(int x) {
      traced.add(40);
      return super.falls(x + 1);
    }
  }

  private static class Button extends Piece {
    Button(int m, int k, int base) {
      super(m, k, base);
    }

    @Override
    int kind() {
      return 4;
    }

    @Override
    int worth() {
      return 1;
    }

    @Override
    int harm() {
      return 1;
    }

    @Override
    int sinks(int x) {
      traced.add(50);
      return -super.sinks(x);
    }

    @Override
    int falls(int x) {
      traced.add(51);
      return super.falls(x) - m;
    }
  }

  private static final class Share extends Canary {
    Share(int m, int k, int base) {
      super(m, k, base);
    }

    @Override
    int kind() {
      return 5;
    }

    @Override
    int worth() {
      return (int) Math.ceil(super.worth() / 2.0);
    }

    @Override
    int sinks(int x) {
      traced.add(60);
      return super.sinks(x) ^ 5;
    }
  }

  private static final class Leaf extends Button {
    Leaf(int m, int k, int base) {
      super(m, k, base);
    }

    @Override
    int kind() {
      return 6;
    }

    @Override
    int worth() {
      return super.worth() + k;
    }

    @Override
    int harm() {
      return 0;
    }

    @Override
    int falls(int x) {
      traced.add(70);
      return super.falls(x) * 2;
    }

    @Override
    int rings(int x) {
      traced.add(71);
      return super.rings(x - k);
    }
  }

  private static Piece make(int kind, int m, int a, int base) {
    switch (kind) {
      case 0: return new Piece(m, a, base);
      case 1: return new Cough(m, a, base);
      case 2: return new Canary(m, a, base);
      case 3: return new Wheeze(m, a, base);
      case 4: return new Button(m, a, base);
      case 5: return new Share(m, a, base);
      default: return new Leaf(m, a, base);
    }
  }

  private static final Class<?>[] KINDS = {
    Piece.class, Cough.class, Canary.class, Wheeze.class, Button.class, Share.class, Leaf.class
  };

  private static final class Person {
    int purse;
    int luck;
    int want;
    int granted;

    Person(int purse, int luck, int want) {
      this.purse = purse;
      this.luck = luck;
      this.want = want;
    }

    Person same() {
      Person p = new Person(purse, luck, want);
      p.granted = granted;
      return p;
    }
  }

  /** All that THE IMAGE has. */
  private static final class World {
    List<Piece> pieces = new ArrayList<>();
    List<Integer> places = new ArrayList<>();
    List<Person> people = new ArrayList<>();
    int[] cost = {5, 6, 7, 8, 9, 10, 11, 12};
    int rule;
    int money;
    int days;
    int seed = 1;

    World same() {
      World w = new World();
      w.pieces = new ArrayList<>(pieces);
      w.places = new ArrayList<>(places);
      for (Person p : people) {
        w.people.add(p.same());
      }
      w.cost = cost.clone();
      w.rule = rule;
      w.money = money;
      w.days = days;
      w.seed = seed;
      return w;
    }

    int at(int place) {
      int bits = 0;
      for (int p = 0; p < pieces.size(); p++) {
        if (places.get(p) == place) {
          bits += 1 << p;
        }
      }
      return bits;
    }

    int worth(int bits) {
      int sum = 0;
      for (int p = 0; p < pieces.size(); p++) {
        if ((bits & 1 << p) != 0) {
          sum += pieces.get(p).worth();
        }
      }
      return sum;
    }

    int harm(int bits) {
      int sum = 0;
      for (int p = 0; p < pieces.size(); p++) {
        if ((bits & 1 << p) != 0) {
          sum += pieces.get(p).harm();
        }
      }
      return sum;
    }

    int price(int person, int wish) {
      int price = cost[wish];
      for (int other = 0; other < people.size(); other++) {
        if (other != person && people.get(other).want == wish) {
          price += 2;
        }
      }
      price -= people.get(person).luck;
      return price < 1 ? 1 : price;
    }

    int byBest(int c) {
      int basin = at(99);
      int found = NONE;
      for (int bits = 0; bits < 1 << pieces.size(); bits++) {
        if ((bits & ~basin) != 0 || worth(bits) != c) {
          continue;
        }
        if (found == NONE
            || Integer.bitCount(bits) < Integer.bitCount(found)
            || Integer.bitCount(bits) == Integer.bitCount(found) && harm(bits) < harm(found)) {
          found = bits;
        }
      }
      return found;
    }

    int byGreedy(int c) {
      int used = 0;
      while (worth(used) < c) {
        int found = NONE;
        for (int p = 0; p < pieces.size(); p++) {
          boolean there = places.get(p) == 99 && (used & 1 << p) == 0;
          if (there && pieces.get(p).worth() <= c - worth(used)
              && (found == NONE || pieces.get(p).worth() > pieces.get(found).worth())) {
            found = p;
          }
        }
        if (found == NONE) {
          return NONE;
        }
        used |= 1 << found;
      }
      return used;
    }

    int change(int c, int by) {
      return by == 0 ? byBest(c) : byGreedy(c);
    }

    int thrown(int person, int n) {
      if (person < 0 || person >= people.size() || n < 0 || n > 99) {
        return NONE;
      }
      Person p = people.get(person);
      if (p.purse < n || n < price(person, p.want)) {
        return NONE;
      }
      return change(n - price(person, p.want), rule);
    }

    int best(int person) {
      int found = NONE;
      int least = 0;
      for (int n = 0; n < 100; n++) {
        int bits = thrown(person, n);
        if (bits != NONE && (found == NONE || harm(bits) < least)) {
          found = n;
          least = harm(bits);
        }
      }
      return found;
    }

    void inTruth(int person, int n) {
      int bits = thrown(person, n);
      people.get(person).purse -= n;
      people.get(person).granted++;
      money += n;
      for (int p = 0; p < pieces.size(); p++) {
        if ((bits & 1 << p) != 0) {
          places.set(p, person);
        }
      }
    }

    int draw(int below) {
      seed = seed * 1103515245 + 12345;
      return (int) ((seed & 0xFFFF0000L) >> 16) % below;
    }

    void day() {
      days++;
      int person = draw(people.size());
      Person p = people.get(person);
      p.purse = Math.min(99, p.purse + draw(20));
      p.want = draw(8);
      int n = best(person);
      if (n != NONE) {
        inTruth(person, n);
      } else if (!pieces.isEmpty()) {
        int piece = draw(pieces.size());
        if (places.get(piece) == person) {
          places.set(piece, 99);
        }
      }
    }

    int granted() {
      int sum = 0;
      for (Person p : people) {
        sum += p.granted;
      }
      return sum;
    }
  }

  private World now = new World();
  private World image = null;
  private final Object[] shelves = new Object[8]; // null, an Integer (a PIECE), or a Row
  private final int[] refused = new int[8];
  private int fault = NONE;
  private List<Integer> trace = new ArrayList<>();

  private static final class Row {
    final int sort;
    final long[] v;

    Row(int sort, int n) {
      this.sort = sort;
      v = new long[n];
    }
  }

  // ---- refusals: the reasons in the order of the list, 0 where none fits

  private int why(boolean... fits) {
    for (int i = 0; i < fits.length; i++) {
      if (fits[i]) {
        refused[i + 1]++;
        return i + 1;
      }
    }
    return 0;
  }

  private boolean shelf(int s) {
    return s >= 0 && s < 8;
  }

  private boolean wish(int w) {
    return w >= 0 && w < 8;
  }

  private boolean kind(int k) {
    return k >= 0 && k < 7;
  }

  private boolean isPiece(int p) {
    return p >= 0 && p < now.pieces.size();
  }

  private boolean isPerson(int p) {
    return p >= 0 && p < now.people.size();
  }

  private boolean showsPiece(int s) {
    return shelf(s) && shelves[s] instanceof Integer;
  }

  private boolean showsNothing(int s) {
    return shelf(s) && shelves[s] == null;
  }

  private Row rowIn(int s) {
    return shelf(s) && shelves[s] instanceof Row ? (Row) shelves[s] : null;
  }

  private long lengthIn(int s) {
    return rowIn(s) == null ? 0 : rowIn(s).v.length;
  }

  private int told(int s, int i) {
    return (int) rowIn(s).v[i];
  }

  // ---- the face

  int row(int s, int sort, int n) {
    int w = why(!shelf(s), false, false, n < 0, false, sort < 0 || sort > 3, n > 160);
    if (w == 0) {
      shelves[s] = new Row(sort, n);
    }
    return w == 0 ? 1 : -w;
  }

  int set(int s, int i, long v) {
    int w = why(!shelf(s), showsPiece(s), showsNothing(s), false, i < 0 || i >= lengthIn(s));
    if (w != 0) {
      return -w;
    }
    Row r = rowIn(s);
    r.v[i] = r.sort == 0 ? (byte) v : r.sort == 1 ? (short) v : r.sort == 2 ? (int) v : v;
    return 1;
  }

  int copy(int p, int q, int i, int j, int n) {
    Row a = rowIn(p);
    Row b = rowIn(q);
    int w = why(!shelf(p) || !shelf(q),
        showsPiece(p) || showsPiece(q) || a != null && b != null && a.sort != b.sort,
        showsNothing(p) || showsNothing(q),
        n < 0,
        i < 0 || j < 0 || (long) i + n > lengthIn(p) || (long) j + n > lengthIn(q));
    if (w != 0) {
      return -w;
    }
    long[] ahead = a.v.clone();
    for (int t = 0; t < n; t++) {
      b.v[j + t] = ahead[i + t];
    }
    return 1;
  }

  long element(int s, int i) {
    return i >= 0 && i < lengthIn(s) ? rowIn(s).v[i] : 0;
  }

  int show(int s, int piece) {
    int w = why(!shelf(s) || piece != NONE && !isPiece(piece));
    if (w != 0) {
      return -w;
    }
    shelves[s] = piece == NONE ? null : Integer.valueOf(piece);
    return piece == NONE ? 0 : 1;
  }

  int holds(int s) {
    return rowIn(s) != null ? 100 + rowIn(s).sort : showsPiece(s) ? (Integer) shelves[s] : NONE;
  }

  int says(int s, int kind) {
    Piece p = showsPiece(s) ? now.pieces.get((Integer) shelves[s]) : null;
    int w = why(!shelf(s) || !kind(kind),
        rowIn(s) != null || p != null && kind(kind) && !KINDS[kind].isInstance(p),
        showsNothing(s));
    if (w != 0) {
      return -w;
    }
    int[] says = {p.base, p.harm(), p.worth(), p.harm(), p.k, p.worth(), p.k};
    return says[kind];
  }

  int piece(int kind, int a, int base) {
    int w = why(!kind(kind), false, false, false, false,
        a < 0 || a > 9 || base < 1 || base > 50, now.pieces.size() == 9);
    if (w != 0) {
      return -w;
    }
    now.pieces.add(make(kind, now.pieces.size(), a, base));
    now.places.add(99);
    return now.pieces.size() - 1;
  }

  int person(int purse, int luck, int want) {
    int w = why(!wish(want), false, false, false, false,
        purse < 0 || purse > 99 || luck < 0 || luck > 9, now.people.size() == 6);
    if (w != 0) {
      return -w;
    }
    now.people.add(new Person(purse, luck, want));
    return now.people.size() - 1;
  }

  int cost(int wish, int v) {
    int w = why(!wish(wish), false, false, false, false, v < 1 || v > 60);
    if (w != 0) {
      return -w;
    }
    int was = now.cost[wish];
    now.cost[wish] = v;
    return was;
  }

  int rule(int v) {
    int w = why(false, false, false, false, false, v < 0 || v > 1);
    int was = now.rule;
    if (w == 0) {
      now.rule = v;
    }
    return w == 0 ? was : -w;
  }

  int tell(int person, int what, int v) {
    int w = why(!isPerson(person) || what == 2 && !wish(v), false, false, false, false,
        what < 0 || what > 2 || v < 0 || what == 0 && v > 99 || what == 1 && v > 9);
    if (w != 0) {
      return -w;
    }
    Person p = now.people.get(person);
    int was = what == 0 ? p.purse : what == 1 ? p.luck : p.want;
    if (what == 0) {
      p.purse = v;
    } else if (what == 1) {
      p.luck = v;
    } else {
      p.want = v;
    }
    return was;
  }

  int pieceOf(int piece, int what) {
    int w = why(false, false, false, false, !isPiece(piece) || what < 0 || what > 5);
    if (w != 0) {
      return -w;
    }
    Piece p = now.pieces.get(piece);
    int[] of = {p.kind(), p.k, p.base, p.worth(), p.harm(), now.places.get(piece)};
    return of[what];
  }

  int personOf(int person, int what) {
    int w = why(false, false, false, false, !isPerson(person) || what < 0 || what > 4);
    if (w != 0) {
      return -w;
    }
    Person p = now.people.get(person);
    int[] of = {p.purse, p.luck, p.want, p.granted, now.at(person)};
    return of[what];
  }

  // ---- texts: by which beginnings can go on, and then by what the words and numbers mean

  private static final String N = " [0-9]{1,2}";
  private static final String ITEM = "(?:piece" + N + N + N + "|person" + N + N + N + "|cost" + N + N
      + "|has" + N + N + "|back" + N + "|greedy|best)";
  private static final Pattern TEXT = Pattern.compile(ITEM + "(?:;" + ITEM + ")*");
  private static final Pattern NUMBER = Pattern.compile("[0-9]{1,2}");

  private static int formFault(String text) {
    for (int end = 1; end <= text.length(); end++) {
      Matcher m = TEXT.matcher(text.substring(0, end));
      if (!m.matches() && !m.hitEnd()) {
        return end - 1;
      }
    }
    return TEXT.matcher(text).matches() ? NONE : text.length();
  }

  /** The fault of what the words and numbers mean as far as the form stands; else NONE. */
  private static int meaningFault(String formed, World w) {
    int start = 0;
    for (String item : formed.split(";", -1)) {
      String word = item.split(" ", -1)[0];
      if (word.equals("piece") && w.pieces.size() == 9 || word.equals("person") && w.people.size() == 6) {
        return start;
      }
      int[] n = new int[3];
      int many = 0;
      Matcher m = NUMBER.matcher(item);
      while (m.find() && many < 3) {
        n[many] = Integer.parseInt(m.group());
        if (!mayBe(word, many, n, w)) {
          return start + m.start();
        }
        many++;
      }
      if (many == needed(word)) {
        comeToPass(word, n, w);
      }
      start += item.length() + 1;
    }
    return NONE;
  }

  private static int needed(String word) {
    switch (word) {
      case "piece": return 3;
      case "person": return 3;
      case "cost": return 2;
      case "has": return 2;
      case "back": return 1;
      case "greedy": return 0;
      case "best": return 0;
      default: return 99;
    }
  }

  private static boolean mayBe(String word, int which, int[] n, World w) {
    int v = n[which];
    switch (word + which) {
      case "piece0": return v <= 6;
      case "piece1": return v <= 9;
      case "piece2": return v >= 1 && v <= 50;
      case "person1": return v <= 9;
      case "person2": return v <= 7;
      case "cost0": return v <= 7;
      case "cost1": return v >= 1 && v <= 60;
      case "has0": return v < w.pieces.size() && w.places.get(v) == 99;
      case "has1": return v < w.people.size();
      case "back0": return v < w.pieces.size() && w.places.get(v) != 99;
      default: return true;
    }
  }

  private static void comeToPass(String word, int[] n, World w) {
    switch (word) {
      case "piece":
        w.pieces.add(make(n[0], w.pieces.size(), n[1], n[2]));
        w.places.add(99);
        break;
      case "person":
        w.people.add(new Person(n[0], n[1], n[2]));
        break;
      case "cost":
        w.cost[n[0]] = n[1];
        break;
      case "has":
        w.places.set(n[0], n[1]);
        break;
      case "back":
        w.places.set(n[0], 99);
        break;
      case "greedy":
        w.rule = 1;
        break;
      default:
        w.rule = 0;
    }
  }

  int square(int s) {
    int w = why(!shelf(s), showsPiece(s), showsNothing(s));
    if (w != 0) {
      return -w;
    }
    StringBuilder text = new StringBuilder();
    for (int i = 0; i < lengthIn(s); i++) {
      int v = told(s, i);
      text.append(v >= 1 && v <= 126 ? (char) v : '~');
    }
    World next = now.same();
    int form = formFault(text.toString());
    String formed = form == NONE ? text.toString() : text.substring(0, form);
    int meaning = meaningFault(formed, next);
    fault = meaning != NONE ? meaning : form;
    w = why(false, false, false, false, false, fault != NONE);
    if (w != 0) {
      return -w;
    }
    now = next;
    return formed.split(";", -1).length;
  }

  int fault() {
    return fault;
  }

  int price(int person, int wish) {
    int w = why(!isPerson(person) || !wish(wish));
    return w == 0 ? now.price(person, wish) : -w;
  }

  int change(int c, int what) {
    int w = why(false, false, false, false, what < 0 || what > 1, c < 0 || c > 99);
    return w == 0 ? now.change(c, what) : -10 - w;
  }

  int harm(int person, int n) {
    int w = why(!isPerson(person), false, false, false, false, n < 0 || n > 99);
    if (w != 0) {
      return -10 - w;
    }
    int bits = now.thrown(person, n);
    return bits == NONE ? NONE : now.harm(bits);
  }

  int best(int person, int what) {
    int w = why(!isPerson(person), false, false, false, what < 0 || what > 1);
    if (w != 0) {
      return -10 - w;
    }
    int n = now.best(person);
    return n == NONE || what == 0 ? n : now.harm(now.thrown(person, n));
  }

  int fails(int what) {
    int w = why(false, false, false, false, what < 0 || what > 1);
    if (w != 0) {
      return -10 - w;
    }
    for (int c = 1; c < 100; c++) {
      int b = now.byBest(c);
      int g = now.byGreedy(c);
      if (what == 0 && b != NONE && g == NONE
          || what == 1 && g != NONE && Integer.bitCount(g) > Integer.bitCount(b)) {
        return c;
      }
    }
    return NONE;
  }

  int amounts(int what) {
    int w = why(false, false, false, false, what < 0 || what > 1);
    if (w != 0) {
      return -w;
    }
    int many = 0;
    for (int c = 1; c < 100; c++) {
      many += now.change(c, what) == NONE ? 0 : 1;
    }
    return many;
  }

  private int mostServed;
  private List<Integer> firstOrder;

  private void orders(List<Integer> order, World w, int served) {
    int many = w.people.size();
    if (order.size() == many && served > mostServed) {
      mostServed = served;
      firstOrder = new ArrayList<>(order);
    }
    for (int p = 0; p < many; p++) {
      if (order.contains(p)) {
        continue;
      }
      order.add(p);
      World next = w.same();
      int n = next.best(p);
      if (n != NONE) {
        next.inTruth(p, n);
      }
      orders(order, next, served + (n == NONE ? 0 : 1));
      order.remove(order.size() - 1);
    }
  }

  int run(int i) {
    int w = why(false, false, false, false, i < -1 || i >= now.people.size());
    if (w != 0) {
      return -w;
    }
    mostServed = -1;
    orders(new ArrayList<>(), now, 0);
    return i == NONE ? mostServed : firstOrder.get(i);
  }

  int rules(int s, int n) {
    boolean no = false;
    for (int i = 0; i < n && 2L * i < lengthIn(s); i++) {
      no |= told(s, 2 * i) < 0 || told(s, 2 * i) > 99;
    }
    int w = why(!shelf(s), showsPiece(s), showsNothing(s), n < 0, lengthIn(s) < 2L * n, n > 40 || no);
    if (w != 0) {
      return -w;
    }
    int bits = 3;
    for (int by = 0; by < 2; by++) {
      for (int i = 0; i < n; i++) {
        if (now.change(told(s, 2 * i), by) != told(s, 2 * i + 1)) {
          bits &= ~(1 << by);
        }
      }
    }
    return bits;
  }

  int costs(int s, int n, int wish, int what) {
    int w = why(!shelf(s) || !wish(wish), showsPiece(s), showsNothing(s), n < 0,
        lengthIn(s) < 2L * n || what < 0 || what > 1, n > 40);
    if (w != 0) {
      return -10 - w;
    }
    for (int i = 0; i < n; i++) {
      if (!isPerson(told(s, 2 * i))) {
        why(true);
        return -11;
      }
    }
    int many = 0;
    int least = NONE;
    World other = now.same();
    for (int v = 1; v <= 60; v++) {
      other.cost[wish] = v;
      boolean so = true;
      for (int i = 0; i < n; i++) {
        so &= other.price(told(s, 2 * i), wish) == told(s, 2 * i + 1);
      }
      if (so) {
        many++;
        least = least == NONE ? v : least;
      }
    }
    return what == 0 ? many : least;
  }

  int dear(int what) {
    int w = why(false, false, false, false, what < 0 || what > 1);
    if (w != 0) {
      return -10 - w;
    }
    int found = NONE;
    int far = 0;
    if (what == 0) {
      for (int p = 0; p < now.pieces.size(); p++) {
        if (now.places.get(p) != 99) {
          continue;
        }
        now.places.set(p, 98);
        int many = 0;
        for (int c = 1; c < 100; c++) {
          many += now.byBest(c) == NONE ? 0 : 1;
        }
        now.places.set(p, 99);
        if (found == NONE || many < far) {
          found = p;
          far = many;
        }
      }
      return found;
    }
    for (int v = 0; v < 8; v++) {
      int many = 0;
      for (Person p : now.people) {
        many += p.want == v ? 1 : 0;
      }
      if (many > far) {
        found = v;
        far = many;
      }
    }
    return found;
  }

  int rich(int person) {
    int w = why(!isPerson(person));
    if (w != 0) {
      return -1000 - w;
    }
    int his = now.at(person);
    return now.worth(his) + now.people.get(person).purse - now.harm(his);
  }

  // ---- told days

  private int wrongTwo;
  private int harmBehind;

  private World toldDay(int s, int n) {
    World w = now.same();
    wrongTwo = NONE;
    harmBehind = 0;
    for (int i = 0; i < n; i++) {
      int bits = w.thrown(told(s, 2 * i), told(s, 2 * i + 1));
      if (bits == NONE) {
        wrongTwo = i;
        return w;
      }
      harmBehind += w.harm(bits);
      w.inTruth(told(s, 2 * i), told(s, 2 * i + 1));
    }
    return w;
  }

  private boolean isWrong(int s, int n) {
    if (n < 0 || lengthIn(s) < 2L * n) {
      return false;
    }
    toldDay(s, n);
    return wrongTwo != NONE;
  }

  int judge(int s, int n) {
    int w = why(!shelf(s), showsPiece(s), showsNothing(s), n < 0, lengthIn(s) < 2L * n, n > 20);
    if (w != 0) {
      return -10 - w;
    }
    toldDay(s, n);
    return wrongTwo;
  }

  int behind(int s, int n, int what) {
    int w = why(!shelf(s), showsPiece(s), showsNothing(s), n < 0,
        lengthIn(s) < 2L * n || what < 0 || what > 2, n > 20 || isWrong(s, n));
    if (w != 0) {
      return -w;
    }
    World day = toldDay(s, n);
    int[] behind = {day.granted() - now.granted(), harmBehind, day.money - now.money};
    return behind[what];
  }

  int done(int s, int n) {
    int w = why(!shelf(s), showsPiece(s), showsNothing(s), n < 0, lengthIn(s) < 2L * n, n > 20 || isWrong(s, n));
    if (w != 0) {
      return -w;
    }
    now = toldDay(s, n);
    return now.money;
  }

  int cast(int person, int n) {
    int bits = now.thrown(person, n);
    int w = why(!isPerson(person), false, false, false, false, bits == NONE);
    if (w != 0) {
      return -w;
    }
    now.inTruth(person, n);
    return bits;
  }

  int back(int piece) {
    int w = why(!isPiece(piece), false, false, false, false, isPiece(piece) && now.places.get(piece) == 99);
    return w == 0 ? now.places.set(piece, 99) : -w;
  }

  int days(int n) {
    int w = why(false, false, false, false, now.people.isEmpty(), n < 1 || n > 40);
    if (w != 0) {
      return -w;
    }
    for (int i = 0; i < n; i++) {
      now.day();
    }
    return now.granted();
  }

  int seed(int v) {
    int was = now.seed;
    now.seed = v;
    return was;
  }

  int act(int piece, int move, int x) {
    traced = new ArrayList<>();
    trace = traced;
    if (!isPiece(piece)) {
      return 0;
    }
    Piece p = now.pieces.get(piece);
    return move == 0 ? p.falls(x) : move == 1 ? p.rings(x) : move == 2 ? p.sinks(x) : 0;
  }

  int trace(int i) {
    return i >= 0 && i < 20 && i < trace.size() ? trace.get(i) : NONE;
  }

  int image() {
    image = now.same();
    return now.pieces.size();
  }

  int restore() {
    int w = why(false, false, false, false, false, image == null);
    if (w != 0) {
      return -w;
    }
    now = image.same();
    for (int s = 0; s < 8; s++) {
      if (showsPiece(s) && !isPiece((Integer) shelves[s])) {
        shelves[s] = null;
      }
    }
    return now.pieces.size();
  }

  int status(int what) {
    if (what >= 11 && what <= 17) {
      return refused[what - 10];
    }
    switch (what) {
      case 0: return now.pieces.size();
      case 1: return now.people.size();
      case 2: return Integer.bitCount(now.at(99));
      case 3: return now.worth(now.at(99));
      case 4: return now.rule;
      case 5: return now.money;
      case 6: return now.days;
      case 7: return now.granted();
      case 8: return now.seed;
      case 9: return trace.size();
      default: return NONE;
    }
  }
}
