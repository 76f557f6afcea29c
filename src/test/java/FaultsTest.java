/**
 * SQUARES read from ROWS of letters, place by place: every beginning of a text, every other sign at every place,
 * every NUMBER there can be, texts for which there is no room, and full ROWS of every SORT.
 */
public final class FaultsTest {
  private static final int NONE = FountainGivesChange.NONE;
  private static final Checks c = new Checks();
  private static final String[] TEXTS = {
    "best",
    "greedy;best;greedy",
    "piece 0 0 1",
    "piece 6 9 50;piece 03 00 07",
    "person 0 0 0;person 99 9 7",
    "cost 0 1;cost 7 60;cost 07 05",
    "piece 1 2 3;person 4 5 6;has 2 2;back 2",
    "person 1 1 1;piece 2 2 22;best;has 2 00;greedy;back 02;has 2 0",
    "back 0;has 1 1;has 0 1;cost 5 50",
  };
  private static final String SIGNS = " ;0123456789abcdeghiknoprsty-BZ~";

  public static void main(String[] args) {
    beginnings();
    otherSigns();
    leftOutAndTwice();
    numbersOfPieces();
    numbersOfPeople();
    numbersOfCosts();
    numbersOfHas();
    numbersOfBack();
    roomForPieces();
    roomForPeople();
    roomWithinAText();
    fullRows();
    sorts();
    latestFault();
    c.end();
  }

  private static void write(FountainGivesChange x, int s, int sort, String text) {
    x.row(s, sort, text.length());
    for (int i = 0; i < text.length(); i++) {
      x.set(s, i, text.charAt(i));
    }
  }

  private static int read(FountainGivesChange x, String text) {
    write(x, 7, 0, text);
    return x.square(7);
  }

  private static int plainly(PlainFountain y, String text) {
    y.row(7, 0, text.length());
    for (int i = 0; i < text.length(); i++) {
      y.set(7, i, text.charAt(i));
    }
    return y.square(7);
  }

  /** Both have a PIECE 0 with person 1, a PIECE 1 and two PEOPLE. */
  private static FountainGivesChange stage() {
    FountainGivesChange x = new FountainGivesChange();
    read(x, "piece 0 0 5;piece 4 0 1;person 9 0 0;person 9 0 0;has 0 1");
    return x;
  }

  private static PlainFountain plainStage() {
    PlainFountain y = new PlainFountain();
    plainly(y, "piece 0 0 5;piece 4 0 1;person 9 0 0;person 9 0 0;has 0 1");
    return y;
  }

  private static void asPlainly(String text, boolean staged) {
    FountainGivesChange x = staged ? stage() : new FountainGivesChange();
    PlainFountain y = staged ? plainStage() : new PlainFountain();
    c.due("square " + text, read(x, text), plainly(y, text));
    c.due("fault of " + text, x.fault(), y.fault());
    for (int what = 0; what < 9; what++) {
      c.due("status " + what + " behind " + text, x.status(what), y.status(what));
    }
  }

  private static void due(FountainGivesChange x, String text, int place) {
    int ahead = x.status(16);
    c.due("square " + text, read(x, text) == -6 ? 1 : 0, place == NONE ? 0 : 1);
    c.due("fault of " + text, x.fault(), place);
    c.due("counted " + text, x.status(16) - ahead, place == NONE ? 0 : 1);
  }

  private static boolean isWhole(String text) {
    return text.matches("(best|greedy|(piece|person)( \\d+){3}|(cost|has)( \\d+){2}|back \\d+)");
  }

  private static void beginnings() {
    c.about("it ends too early: the number of elements");
    for (String text : TEXTS) {
      for (int end = 0; end <= text.length(); end++) {
        String part = text.substring(0, end);
        String last = part.substring(part.lastIndexOf(';') + 1);
        // "cost 07 0": the first digit of a NUMBER that may not be.
        boolean zero = last.matches("(cost \\d+|piece \\d+ \\d+) 0");
        due(stage(), part, isWhole(last) && !zero ? NONE : zero ? end - 1 : end);
      }
    }
  }

  private static void otherSigns() {
    c.about("the first place at which an element can't stand");
    for (String text : TEXTS) {
      for (int at = 0; at < text.length(); at++) {
        for (int s = 0; s < SIGNS.length(); s++) {
          StringBuilder other = new StringBuilder(text);
          other.setCharAt(at, SIGNS.charAt(s));
          asPlainly(other.toString(), true);
        }
      }
    }
  }

  private static void leftOutAndTwice() {
    c.about("a sign that is left out, or stands twice");
    for (String text : TEXTS) {
      for (int at = 0; at < text.length(); at++) {
        asPlainly(new StringBuilder(text).deleteCharAt(at).toString(), true);
        asPlainly(new StringBuilder(text).insert(at, text.charAt(at)).toString(), true);
        asPlainly(new StringBuilder(text).insert(at, ' ').toString(), false);
        asPlainly(new StringBuilder(text).insert(at, ';').toString(), false);
      }
    }
  }

  // ---- NUMBERS: 1 to 2 digits, each from the least to the most that may be

  private static void number(String ahead, String behind, int least, int most) {
    for (int v = 0; v < 100; v++) {
      boolean may = v >= least && v <= most;
      due(stage(), ahead + v + behind, may ? NONE : ahead.length());
      if (v < 10) {
        due(stage(), ahead + "0" + v + behind, may ? NONE : ahead.length());
      }
    }
    due(stage(), ahead, ahead.length());
    due(stage(), ahead + "-1" + behind, ahead.length());
    due(stage(), ahead + "+" + least + behind, ahead.length());
    due(stage(), ahead + " " + least + behind, ahead.length());
    due(stage(), ahead + "x" + behind, ahead.length());
    due(stage(), ahead + "00" + least + behind, least == 0 ? ahead.length() + 2 : ahead.length());
    due(stage(), ahead + "0" + most % 10 + "0" + behind,
        most % 10 >= least ? ahead.length() + 2 : ahead.length());
  }

  private static void numbersOfPieces() {
    c.about("numbers of piece K A B");
    number("piece ", " 0 1", 0, 6);
    number("piece 0 ", " 1", 0, 9);
    number("piece 0 0 ", "", 1, 50);
    number("best;piece 0 0 ", ";best", 1, 50);
  }

  private static void numbersOfPeople() {
    c.about("numbers of person P L W");
    number("person ", " 0 0", 0, 99);
    number("person 0 ", " 0", 0, 9);
    number("person 0 0 ", "", 0, 7);
    number("best;person 0 0 ", ";best", 0, 7);
  }

  private static void numbersOfCosts() {
    c.about("numbers of cost W N");
    number("cost ", " 1", 0, 7);
    number("cost 0 ", "", 1, 60);
    number("best;cost 7 ", ";best", 1, 60);
  }

  private static void numbersOfHas() {
    c.about("numbers of has X P");
    number("has ", " 0", 1, 1);
    number("has 1 ", "", 0, 1);
    number("piece 0 0 1;has ", " 0", 1, 2);
    number("person 0 0 0;has 1 ", "", 0, 2);
    number("back 0;has ", " 0", 0, 1);
    number("back 0;has 1 0;has ", " 0", 0, 0);
    due(new FountainGivesChange(), "has 0 0", 4);
    due(stage(), "has 0 9", 4);
    due(stage(), "has 2 9", 4);
    due(stage(), "has 0", 4);
    due(stage(), "has 2", 4);
    due(stage(), "has 1", 5);
    due(stage(), "has 1 ", 6);
    due(stage(), "has 1 0", NONE);
  }

  private static void numbersOfBack() {
    c.about("numbers of back X");
    number("back ", "", 0, 0);
    number("has 1 0;back ", "", 0, 1);
    number("back 0;has 1 0;back ", "", 1, 1);
    due(new FountainGivesChange(), "back 0", 5);
  }

  // ---- room: asked when the letters of the word stand whole

  private static FountainGivesChange with(int pieces, int people) {
    FountainGivesChange x = new FountainGivesChange();
    for (int i = 0; i < pieces; i++) {
      x.piece(0, 0, 1);
    }
    for (int i = 0; i < people; i++) {
      x.person(0, 0, 0);
    }
    return x;
  }

  private static void noRoom(int pieces, int people, String ahead, String word) {
    String[] behind = {"", " ", " 0", " 0 0 1", " 9", "x", ";", "s", " 0 0 1;best", " 0 0 0"};
    for (String rest : behind) {
      due(with(pieces, people), ahead + word + rest, ahead.length());
    }
    for (int end = 0; end < word.length(); end++) {
      String part = ahead + word.substring(0, end);
      due(with(pieces, people), part, part.length());
      due(with(pieces, people), part + "z", part.length());
    }
  }

  private static void roomForPieces() {
    c.about("room for a word: piece");
    due(with(8, 0), "piece 0 0 1", NONE);
    noRoom(9, 0, "", "piece");
    noRoom(9, 0, "best;", "piece");
    noRoom(9, 6, "cost 0 1;", "piece");
    noRoom(8, 0, "piece 0 0 1;", "piece");
    due(with(9, 0), "pierce", 3);
    due(with(9, 5), "person 0 0 0", NONE);
    due(with(9, 5), "best;greedy;cost 0 1;has 8 4;back 8", NONE);
  }

  private static void roomForPeople() {
    c.about("room for a word: person");
    due(with(0, 5), "person 0 0 0", NONE);
    noRoom(0, 6, "", "person");
    noRoom(0, 6, "best;", "person");
    noRoom(9, 6, "cost 0 1;", "person");
    noRoom(0, 5, "person 0 0 0;", "person");
    due(with(0, 6), "persno", 4);
    due(with(8, 6), "piece 0 0 1", NONE);
  }

  private static void roomWithinAText() {
    c.about("room within a text");
    FountainGivesChange x = with(0, 0);
    StringBuilder nine = new StringBuilder("piece 0 0 1");
    for (int i = 1; i < 9; i++) {
      nine.append(";piece 0 0 1");
    }
    due(x, nine + ";piece 0 0 1", nine.length() + 1);
    c.due("none of them", x.status(0), 0);
    due(x, nine.toString(), NONE);
    c.due("all of them", x.status(0), 9);
    due(x, "piece", 0);
  }

  // ---- full ROWS, SORTS, the latest FAULT

  private static String filled(String end) {
    StringBuilder text = new StringBuilder();
    while (text.length() + 5 + end.length() <= 160) {
      text.append("best;");
    }
    return text.append(end).toString();
  }

  private static void fullRows() {
    c.about("full rows: 160 elements");
    c.due("of 160", filled("cost 0 1;greedy").length(), 160);
    FountainGivesChange x = new FountainGivesChange();
    c.due("items", read(x, filled("cost 0 1;greedy")), 31);
    c.due("the last of them", x.status(4), 1);
    for (String end : new String[] {"cost 0 1;best;", "cost 0 10;best", "cost 0 10;bes;", "cost 0 01;cost "}) {
      String text = filled(end);
      c.due("of 160", text.length() > 155 && text.length() <= 160 ? 1 : 0, 1);
      asPlainly(text, false);
    }
    due(new FountainGivesChange(), filled("best;") , filled("best;").length());
    c.due("of 160, ended too early", filled("best;").length(), 160);
    due(new FountainGivesChange(), filled("cost 0 10;grees"), 159);
    due(new FountainGivesChange(), filled("cost 0 1;cost 0"), 160);
    c.due("of 160", filled("cost 0 1;cost 0").length(), 160);
    due(new FountainGivesChange(), filled("cost 0 1;cost 8"), 159);
    due(new FountainGivesChange(), filled("best;cost 0 10 "), 159);
  }

  private static void sorts() {
    c.about("all is read as ints");
    for (int sort = 0; sort < 4; sort++) {
      FountainGivesChange x = new FountainGivesChange();
      write(x, sort, sort, "greedy;piece 6 9 50");
      c.due("sort " + sort, x.square(sort), 2);
      for (int bit = 7; bit < 64; bit++) {
        write(x, sort, sort, "best");
        x.set(sort, 2, 's' | 1L << bit);
        int kept = sort == 0 ? 8 : sort == 1 ? 16 : 32;
        c.due("sort " + sort + ", bit " + bit, x.square(sort), bit < kept ? -6 : 1);
        c.due("fault", x.fault(), bit < kept ? 2 : NONE);
        if (bit % 8 == 7) {
          x = new FountainGivesChange();
        }
      }
    }
    FountainGivesChange x = new FountainGivesChange();
    for (int v : new int[] {0, -1, -128, 127}) {
      write(x, 0, 0, "x");
      x.set(0, 0, v);
      c.due("no letter " + v, x.square(0), -6);
      c.due("fault", x.fault(), 0);
    }
  }

  private static void latestFault() {
    c.about("the FAULT of the latest square() that came to a ROW");
    FountainGivesChange x = new FountainGivesChange();
    c.due("none yet", x.fault(), NONE);
    c.due("no row", x.square(0), -3);
    c.due("none yet", x.fault(), NONE);
    x.row(0, 0, 0);
    c.due("an empty row", x.square(0), -6);
    c.due("its number of elements", x.fault(), 0);
    c.due("a good one", read(x, "best"), 1);
    c.due("there was none", x.fault(), NONE);
    c.due("a bad one", read(x, "best;bask"), -6);
    c.due("fault", x.fault(), 8 - 1);
    c.due("no shelf", x.square(8), -1);
    c.due("nothing", x.square(5), -3);
    c.due("still", x.fault(), 7);
    x.image();
    x.restore();
    c.due("an image leaves it", x.fault(), 7);
    x.row(7, 0, 1);
    c.due("so does another row", x.fault(), 7);
  }
}
