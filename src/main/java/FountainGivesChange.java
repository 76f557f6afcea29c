import java.util.Arrays;

/** The fountain of ../shared/DOC.md; words in capitals here are that document's terms. */
public final class FountainGivesChange {
    public static final int NONE = -1;

    private static final int NOBODY = 1;
    private static final int OTHER = 2;
    private static final int NOTHING = 3;
    private static final int BELOW = 4;
    private static final int BEYOND = 5;
    private static final int WRONG = 6;
    private static final int ROOM = 7;

    // What a refusal's number is less by, where the plain one could be an answer.
    private static final int APART = 10;
    private static final int FAR_APART = 1000;

    private static final int SHELVES = 8;
    private static final int MOST_TOLD = 40;
    private static final int MOST_THROWS = 20;
    private static final int MOST_DAYS = 40;

    private final Square now = new Square();
    private final Square draft = new Square();
    private final Square kept = new Square();
    private final Shelf[] shelves = new Shelf[SHELVES];
    private final Change table = new Change();
    private final Reader reader = new Reader();
    private final Moves moves = new Moves();
    private final int[] refused = new int[ROOM + 1];
    private boolean imaged = false;
    private int latestFault = NONE;

    public FountainGivesChange() {
        for (int s = 0; s < SHELVES; s++) {
            shelves[s] = new Shelf();
        }
    }

    public int row(int s, int sort, int n) {
        if (!isShelf(s)) {
            return refuse(NOBODY);
        }
        if (n < 0) {
            return refuse(BELOW);
        }
        if (sort < 0 || sort > Shelf.LONGS) {
            return refuse(WRONG);
        }
        if (n > Shelf.MOST_ELEMENTS) {
            return refuse(ROOM);
        }
        shelves[s].holdRow(sort, n);
        return 1;
    }

    public int set(int s, int i, long v) {
        int why = whyNoRow(s);
        if (why != 0) {
            return refuse(why);
        }
        if (!shelves[s].hasElement(i)) {
            return refuse(BEYOND);
        }
        shelves[s].put(i, v);
        return 1;
    }

    public int copy(int p, int q, int i, int j, int n) {
        if (!isShelf(p) || !isShelf(q)) {
            return refuse(NOBODY);
        }
        Shelf from = shelves[p];
        Shelf to = shelves[q];
        if (from.isOtherThanRow() || to.isOtherThanRow() || from.isOfOtherSort(to)) {
            return refuse(OTHER);
        }
        if (from.isEmpty() || to.isEmpty()) {
            return refuse(NOTHING);
        }
        if (n < 0) {
            return refuse(BELOW);
        }
        if (!from.hasStretch(i, n) || !to.hasStretch(j, n)) {
            return refuse(BEYOND);
        }
        from.copyTo(to, i, j, n);
        return 1;
    }

    public long element(int s, int i) {
        return isShelf(s) ? shelves[s].whole(i) : 0L;
    }

    public int show(int s, int piece) {
        if (!isShelf(s) || piece != NONE && !now.isPiece(piece)) {
            return refuse(NOBODY);
        }
        shelves[s].holdPiece(piece);
        return piece == NONE ? 0 : 1;
    }

    public int holds(int s) {
        return isShelf(s) ? shelves[s].held : NONE;
    }

    public int says(int s, int kind) {
        if (!isShelf(s) || !Square.isKind(kind)) {
            return refuse(NOBODY);
        }
        Shelf shelf = shelves[s];
        if (shelf.isEmpty()) {
            return refuse(NOTHING);
        }
        int piece = shelf.held;
        if (!now.isPiece(piece) || !now.isOfKind(piece, kind)) {
            return refuse(OTHER);
        }
        switch (kind) {
            case Square.PIECE:
                return now.base[piece];
            case Square.COUGH:
            case Square.WHEEZE:
                return now.harmOf(piece);
            case Square.CANARY:
            case Square.SHARE:
                return now.worthOf(piece);
            default:
                return now.a[piece];
        }
    }

    public int piece(int kind, int a, int base) {
        if (!Square.isKind(kind)) {
            return refuse(NOBODY);
        }
        if (!isFrom(a, 0, Square.MOST_A) || !isFrom(base, 1, Square.MOST_BASE)) {
            return refuse(WRONG);
        }
        if (!now.hasRoomForPiece()) {
            return refuse(ROOM);
        }
        return now.addPiece(kind, a, base);
    }

    public int person(int purse, int luck, int want) {
        if (!Square.isWish(want)) {
            return refuse(NOBODY);
        }
        if (!isFrom(purse, 0, Square.MOST_PURSE) || !isFrom(luck, 0, Square.MOST_LUCK)) {
            return refuse(WRONG);
        }
        if (!now.hasRoomForPerson()) {
            return refuse(ROOM);
        }
        return now.addPerson(purse, luck, want);
    }

    public int cost(int wish, int v) {
        if (!Square.isWish(wish)) {
            return refuse(NOBODY);
        }
        if (!isFrom(v, 1, Square.MOST_COST)) {
            return refuse(WRONG);
        }
        int was = now.cost[wish];
        now.cost[wish] = v;
        return was;
    }

    public int rule(int v) {
        if (v != Square.BEST && v != Square.GREEDY) {
            return refuse(WRONG);
        }
        int was = now.rule;
        now.rule = v;
        return was;
    }

    public int tell(int person, int what, int v) {
        if (!now.isPerson(person) || what == 2 && !Square.isWish(v)) {
            return refuse(NOBODY);
        }
        switch (what) {
            case 0:
                return tellOne(now.purse, person, v, Square.MOST_PURSE);
            case 1:
                return tellOne(now.luck, person, v, Square.MOST_LUCK);
            case 2:
                return tellOne(now.want, person, v, Square.WISHES - 1);
            default:
                return refuse(WRONG);
        }
    }

    public int pieceOf(int piece, int what) {
        if (!now.isPiece(piece)) {
            return refuse(BEYOND);
        }
        switch (what) {
            case 0:
                return now.kind[piece];
            case 1:
                return now.a[piece];
            case 2:
                return now.base[piece];
            case 3:
                return now.worthOf(piece);
            case 4:
                return now.harmOf(piece);
            case 5:
                return now.place[piece];
            default:
                return refuse(BEYOND);
        }
    }

    public int personOf(int person, int what) {
        if (!now.isPerson(person)) {
            return refuse(BEYOND);
        }
        switch (what) {
            case 0:
                return now.purse[person];
            case 1:
                return now.luck[person];
            case 2:
                return now.want[person];
            case 3:
                return now.granted[person];
            case 4:
                return now.bitsAt(person);
            default:
                return refuse(BEYOND);
        }
    }

    public int square(int s) {
        int why = whyNoRow(s);
        if (why != 0) {
            return refuse(why);
        }
        int items = reader.read(shelves[s], now);
        latestFault = reader.fault;
        if (items == NONE) {
            return refuse(WRONG);
        }
        now.take(reader.square);
        return items;
    }

    public int fault() {
        return latestFault;
    }

    public int price(int person, int wish) {
        if (!now.isPerson(person) || !Square.isWish(wish)) {
            return refuse(NOBODY);
        }
        return now.priceFor(person, wish);
    }

    public int change(int c, int what) {
        if (!isOneOfTwo(what)) {
            return refuse(BEYOND) - APART;
        }
        if (!Square.isAmount(c)) {
            return refuse(WRONG) - APART;
        }
        return table.bitsBy(now, what, c);
    }

    public int harm(int person, int n) {
        if (!now.isPerson(person)) {
            return refuse(NOBODY) - APART;
        }
        if (!Square.isAmount(n)) {
            return refuse(WRONG) - APART;
        }
        int bits = throwBy(now, person, n);
        return bits == NONE ? NONE : now.harmOfBits(bits);
    }

    public int best(int person, int what) {
        if (!now.isPerson(person)) {
            return refuse(NOBODY) - APART;
        }
        if (!isOneOfTwo(what)) {
            return refuse(BEYOND) - APART;
        }
        int n = now.bestThrow(person);
        // A BEST THROW comes without CHANGE, and so without HARM.
        return what == 0 || n == NONE ? n : 0;
    }

    public int fails(int what) {
        if (!isOneOfTwo(what)) {
            return refuse(BEYOND) - APART;
        }
        table.weigh(now, now.basin());
        for (int c = 1; c < Square.AMOUNTS; c++) {
            int fewest = table.fewestFor(c);
            int greedy = now.greedyFor(c);
            boolean failed = fewest != NONE && greedy == NONE;
            boolean wasted = greedy != NONE && Integer.bitCount(greedy) > Integer.bitCount(fewest);
            if (what == 0 ? failed : wasted) {
                return c;
            }
        }
        return NONE;
    }

    public int amounts(int what) {
        if (what == Square.BEST) {
            return table.amountsOf(now, now.basin());
        }
        if (what != Square.GREEDY) {
            return refuse(BEYOND);
        }
        int many = 0;
        for (int c = 1; c < Square.AMOUNTS; c++) {
            if (now.greedyFor(c) != NONE) {
                many++;
            }
        }
        return many;
    }

    public int run(int i) {
        if (i < NONE || i >= now.people) {
            return refuse(BEYOND);
        }
        // No BEST THROW takes a PIECE, so nobody stands in another's way: all orders
        // serve the same PEOPLE, and the first of them by rows is that of their numbers.
        if (i != NONE) {
            return i;
        }
        int many = 0;
        for (int person = 0; person < now.people; person++) {
            if (now.bestThrow(person) != NONE) {
                many++;
            }
        }
        return many;
    }

    public int rules(int s, int n) {
        int why = whyNoTwos(s, n, MOST_TOLD, false);
        if (why != 0) {
            return refuse(why);
        }
        Shelf told = shelves[s];
        for (int i = 0; i < n; i++) {
            if (!Square.isAmount(told.first(i))) {
                return refuse(WRONG);
            }
        }
        table.weigh(now, now.basin());
        boolean best = true;
        boolean greedy = true;
        for (int i = 0; i < n; i++) {
            best = best && table.fewestFor(told.first(i)) == told.second(i);
            greedy = greedy && now.greedyFor(told.first(i)) == told.second(i);
        }
        return (best ? 1 : 0) | (greedy ? 2 : 0);
    }

    public int costs(int s, int n, int wish, int what) {
        int why = Square.isWish(wish) ? whyNoTwos(s, n, MOST_TOLD, !isOneOfTwo(what)) : NOBODY;
        if (why == 0 && !areAllThere(shelves[s], n)) {
            why = NOBODY;
        }
        if (why != 0) {
            return refuse(why) - APART;
        }
        int many = 0;
        int least = NONE;
        for (int v = Square.MOST_COST; v > 0; v--) {
            if (isCost(shelves[s], n, wish, v)) {
                many++;
                least = v;
            }
        }
        return what == 0 ? many : least;
    }

    public int dear(int what) {
        switch (what) {
            case 0:
                return dearest();
            case 1:
                return crowd();
            default:
                return refuse(BEYOND) - APART;
        }
    }

    public int rich(int person) {
        if (!now.isPerson(person)) {
            return refuse(NOBODY) - FAR_APART;
        }
        int his = now.bitsAt(person);
        return now.worthOfBits(his) + now.purse[person] - now.harmOfBits(his);
    }

    public int judge(int s, int n) {
        int why = whyNoTwos(s, n, MOST_THROWS, false);
        if (why != 0) {
            return refuse(why) - APART;
        }
        return draftDay(shelves[s], n);
    }

    public int behind(int s, int n, int what) {
        int why = whyNoTwos(s, n, MOST_THROWS, !isFrom(what, 0, 2));
        if (why == 0 && draftDay(shelves[s], n) != NONE) {
            why = WRONG;
        }
        if (why != 0) {
            return refuse(why);
        }
        switch (what) {
            case 0:
                return n;
            case 1:
                // In a told DAY nothing is thrown in: what left THE BASIN came as CHANGE.
                return now.harmOfBits(now.basin()) - draft.harmOfBits(draft.basin());
            default:
                return draft.money - now.money;
        }
    }

    public int done(int s, int n) {
        int why = whyNoTwos(s, n, MOST_THROWS, false);
        if (why == 0 && draftDay(shelves[s], n) != NONE) {
            why = WRONG;
        }
        if (why != 0) {
            return refuse(why);
        }
        now.take(draft);
        return now.money;
    }

    public int cast(int person, int n) {
        if (!now.isPerson(person)) {
            return refuse(NOBODY);
        }
        int bits = throwBy(now, person, n);
        if (bits == NONE) {
            return refuse(WRONG);
        }
        now.grant(person, n, bits);
        return bits;
    }

    public int back(int piece) {
        if (!now.isPiece(piece)) {
            return refuse(NOBODY);
        }
        int who = now.place[piece];
        if (who == Square.BASIN) {
            return refuse(WRONG);
        }
        now.place[piece] = Square.BASIN;
        return who;
    }

    public int days(int n) {
        if (now.people == 0) {
            return refuse(BEYOND);
        }
        if (!isFrom(n, 1, MOST_DAYS)) {
            return refuse(WRONG);
        }
        for (int day = 0; day < n; day++) {
            now.drawDay();
        }
        return now.grantedTogether();
    }

    public int seed(int v) {
        int was = now.seed;
        now.seed = v;
        return was;
    }

    public int act(int piece, int move, int x) {
        return moves.answer(now, piece, move, x);
    }

    public int trace(int i) {
        return moves.bodyAt(i);
    }

    public int image() {
        kept.take(now);
        imaged = true;
        return kept.pieces;
    }

    public int restore() {
        if (!imaged) {
            return refuse(WRONG);
        }
        now.take(kept);
        for (int s = 0; s < SHELVES; s++) {
            Shelf shelf = shelves[s];
            if (shelf.isOtherThanRow() && !now.isPiece(shelf.held)) {
                shelf.holdPiece(NONE);
            }
        }
        return now.pieces;
    }

    public int status(int what) {
        switch (what) {
            case 0:
                return now.pieces;
            case 1:
                return now.people;
            case 2:
                return Integer.bitCount(now.basin());
            case 3:
                return now.worthOfBits(now.basin());
            case 4:
                return now.rule;
            case 5:
                return now.money;
            case 6:
                return now.days;
            case 7:
                return now.grantedTogether();
            case 8:
                return now.seed;
            case 9:
                return moves.ran;
            default:
                return isFrom(what, 10 + NOBODY, 10 + ROOM) ? refused[what - 10] : NONE;
        }
    }

    private static boolean isFrom(int v, int least, int most) {
        return v >= least && v <= most;
    }

    private static boolean isOneOfTwo(int what) {
        return what == 0 || what == 1;
    }

    private static boolean isShelf(int s) {
        return s >= 0 && s < SHELVES;
    }

    private int refuse(int why) {
        if (isFrom(why, NOBODY, ROOM)) {
            refused[why]++;
        }
        return -why;
    }

    private int whyNoRow(int s) {
        if (!isShelf(s)) {
            return NOBODY;
        }
        if (shelves[s].isOtherThanRow()) {
            return OTHER;
        }
        return shelves[s].isEmpty() ? NOTHING : 0;
    }

    private int whyNoTwos(int s, int n, int most, boolean beyond) {
        int why = whyNoRow(s);
        if (why != 0) {
            return why;
        }
        if (n < 0) {
            return BELOW;
        }
        if (beyond || n > shelves[s].size / 2) {
            return BEYOND;
        }
        return n > most ? WRONG : 0;
    }

    private int tellOne(int[] what, int person, int v, int most) {
        if (!isFrom(v, 0, most)) {
            return refuse(WRONG);
        }
        int was = what[person];
        what[person] = v;
        return was;
    }

    /** The PIECES (bits) of the CHANGE that comes with a THROW; NONE: it is none. */
    private int throwBy(Square square, int person, int n) {
        if (!square.isPerson(person) || n > square.purse[person]) {
            return NONE;
        }
        int price = square.priceFor(person, square.want[person]);
        return n < price ? NONE : table.bitsBy(square, square.rule, n - price);
    }

    /** The first two of a told DAY that is no THROW by then; NONE: the draft is as it is behind all. */
    private int draftDay(Shelf told, int n) {
        draft.take(now);
        for (int i = 0; i < n; i++) {
            int person = told.first(i);
            int bits = throwBy(draft, person, told.second(i));
            if (bits == NONE) {
                return i;
            }
            draft.grant(person, told.second(i), bits);
        }
        return NONE;
    }

    private boolean areAllThere(Shelf told, int n) {
        for (int i = 0; i < n; i++) {
            if (!now.isPerson(told.first(i))) {
                return false;
            }
        }
        return true;
    }

    private boolean isCost(Shelf told, int n, int wish, int v) {
        for (int i = 0; i < n; i++) {
            if (now.priceByCost(told.first(i), wish, v) != told.second(i)) {
                return false;
            }
        }
        return true;
    }

    private int dearest() {
        int found = NONE;
        int fewest = Square.AMOUNTS;
        int basin = now.basin();
        for (int piece = 0; piece < now.pieces; piece++) {
            if (!Square.isBit(basin, piece)) {
                continue;
            }
            int many = table.amountsOf(now, basin & ~(1 << piece));
            if (many < fewest) {
                fewest = many;
                found = piece;
            }
        }
        return found;
    }

    private int crowd() {
        int found = NONE;
        int most = 0;
        for (int wish = 0; wish < Square.WISHES; wish++) {
            int many = now.wanting(wish);
            if (many > most) {
                most = many;
                found = wish;
            }
        }
        return found;
    }

    /** PIECES, PEOPLE and WISHES as they are: all that THE IMAGE keeps. */
    private static final class Square {
        static final int PIECE = 0;
        static final int COUGH = 1;
        static final int CANARY = 2;
        static final int WHEEZE = 3;
        static final int BUTTON = 4;
        static final int SHARE = 5;
        static final int LEAF = 6;
        static final int KINDS = 7;
        // Of each KIND the one that it is under.
        static final int[] ABOVE = {NONE, PIECE, PIECE, COUGH, PIECE, CANARY, BUTTON};

        static final int BEST = 0;
        static final int GREEDY = 1;
        static final int BASIN = 99;
        static final int AMOUNTS = 100;
        static final int WISHES = 8;
        static final int MOST_PIECES = 9;
        static final int MOST_PEOPLE = 6;
        static final int MOST_A = 9;
        static final int MOST_BASE = 50;
        static final int MOST_PURSE = 99;
        static final int MOST_LUCK = 9;
        static final int MOST_COST = 60;
        static final int MOST_FOUND = 20;

        final int[] kind = new int[MOST_PIECES];
        final int[] a = new int[MOST_PIECES];
        final int[] base = new int[MOST_PIECES];
        final int[] place = new int[MOST_PIECES];
        final int[] purse = new int[MOST_PEOPLE];
        final int[] luck = new int[MOST_PEOPLE];
        final int[] want = new int[MOST_PEOPLE];
        final int[] granted = new int[MOST_PEOPLE];
        final int[] cost = new int[WISHES];
        int pieces = 0;
        int people = 0;
        int rule = BEST;
        int money = 0;
        int days = 0;
        int seed = 1;

        Square() {
            for (int wish = 0; wish < WISHES; wish++) {
                cost[wish] = wish + 5;
            }
        }

        static boolean isKind(int kind) {
            return kind >= 0 && kind < KINDS;
        }

        static boolean isWish(int wish) {
            return wish >= 0 && wish < WISHES;
        }

        static boolean isAmount(int c) {
            return c >= 0 && c < AMOUNTS;
        }

        static boolean isBit(int bits, int piece) {
            return (bits >> piece & 1) != 0;
        }

        boolean isPiece(int piece) {
            return piece >= 0 && piece < pieces;
        }

        boolean isPerson(int person) {
            return person >= 0 && person < people;
        }

        boolean hasRoomForPiece() {
            return pieces < MOST_PIECES;
        }

        boolean hasRoomForPerson() {
            return people < MOST_PEOPLE;
        }

        boolean isOfKind(int piece, int wanted) {
            int above = kind[piece];
            for (int step = 0; step < KINDS && above != wanted && isKind(above); step++) {
                above = ABOVE[above];
            }
            return above == wanted;
        }

        void take(Square other) {
            System.arraycopy(other.kind, 0, kind, 0, MOST_PIECES);
            System.arraycopy(other.a, 0, a, 0, MOST_PIECES);
            System.arraycopy(other.base, 0, base, 0, MOST_PIECES);
            System.arraycopy(other.place, 0, place, 0, MOST_PIECES);
            System.arraycopy(other.purse, 0, purse, 0, MOST_PEOPLE);
            System.arraycopy(other.luck, 0, luck, 0, MOST_PEOPLE);
            System.arraycopy(other.want, 0, want, 0, MOST_PEOPLE);
            System.arraycopy(other.granted, 0, granted, 0, MOST_PEOPLE);
            System.arraycopy(other.cost, 0, cost, 0, WISHES);
            pieces = other.pieces;
            people = other.people;
            rule = other.rule;
            money = other.money;
            days = other.days;
            seed = other.seed;
        }

        int addPiece(int itsKind, int itsA, int itsBase) {
            if (!hasRoomForPiece()) {
                return NONE;
            }
            int piece = pieces;
            kind[piece] = itsKind;
            a[piece] = itsA;
            base[piece] = itsBase;
            place[piece] = BASIN;
            pieces++;
            return piece;
        }

        int addPerson(int itsPurse, int itsLuck, int itsWant) {
            if (!hasRoomForPerson()) {
                return NONE;
            }
            int person = people;
            purse[person] = itsPurse;
            luck[person] = itsLuck;
            want[person] = itsWant;
            granted[person] = 0;
            people++;
            return person;
        }

        int worthOf(int piece) {
            int ofCough = (base[piece] + 1) / 2;
            int ofCanary = base[piece] + a[piece];
            switch (kind[piece]) {
                case COUGH:
                    return ofCough;
                case WHEEZE:
                    return Math.max(ofCough - a[piece], 1);
                case CANARY:
                    return ofCanary;
                case SHARE:
                    return (ofCanary + 1) / 2;
                case BUTTON:
                    return 1;
                case LEAF:
                    return 1 + a[piece];
                default:
                    return base[piece];
            }
        }

        int harmOf(int piece) {
            switch (kind[piece]) {
                case COUGH:
                    return a[piece];
                case WHEEZE:
                    return 2 * a[piece];
                case BUTTON:
                    return 1;
                default:
                    return 0;
            }
        }

        int worthOfBits(int bits) {
            int worth = 0;
            for (int piece = 0; piece < pieces; piece++) {
                worth += isBit(bits, piece) ? worthOf(piece) : 0;
            }
            return worth;
        }

        int harmOfBits(int bits) {
            int harm = 0;
            for (int piece = 0; piece < pieces; piece++) {
                harm += isBit(bits, piece) ? harmOf(piece) : 0;
            }
            return harm;
        }

        int bitsAt(int where) {
            int bits = 0;
            for (int piece = 0; piece < pieces; piece++) {
                bits |= place[piece] == where ? 1 << piece : 0;
            }
            return bits;
        }

        int basin() {
            return bitsAt(BASIN);
        }

        int wanting(int wish) {
            int many = 0;
            for (int person = 0; person < people; person++) {
                many += want[person] == wish ? 1 : 0;
            }
            return many;
        }

        int grantedTogether() {
            int many = 0;
            for (int person = 0; person < people; person++) {
                many += granted[person];
            }
            return many;
        }

        int priceFor(int person, int wish) {
            return priceByCost(person, wish, cost[wish]);
        }

        int priceByCost(int person, int wish, int itsCost) {
            int others = wanting(wish) - (want[person] == wish ? 1 : 0);
            return Math.max(itsCost + 2 * others - luck[person], 1);
        }

        // CHANGE for 0 is always there and without HARM: no n has less, and none below
        // the PRICE is a THROW. So the BEST THROW is the PRICE itself, if he has it.
        int bestThrow(int person) {
            int price = priceFor(person, want[person]);
            return price <= purse[person] ? price : NONE;
        }

        int greedyFor(int c) {
            int left = c;
            int unused = basin();
            int bits = 0;
            for (int turn = 0; turn < MOST_PIECES && left > 0; turn++) {
                int piece = greatestUpTo(left, unused);
                if (piece == NONE) {
                    return NONE;
                }
                bits |= 1 << piece;
                unused &= ~bits;
                left -= worthOf(piece);
            }
            return left == 0 ? bits : NONE;
        }

        private int greatestUpTo(int most, int among) {
            int found = NONE;
            int greatest = 0;
            for (int piece = 0; piece < pieces; piece++) {
                int worth = worthOf(piece);
                if (isBit(among, piece) && worth <= most && worth > greatest) {
                    greatest = worth;
                    found = piece;
                }
            }
            return found;
        }

        void grant(int person, int n, int bits) {
            purse[person] -= n;
            granted[person]++;
            money += n;
            for (int piece = 0; piece < pieces; piece++) {
                if (isBit(bits, piece)) {
                    place[piece] = person;
                }
            }
        }

        int draw(int below) {
            if (below < 1) {
                return 0;
            }
            seed = seed * 1103515245 + 12345;
            return (seed >>> 16) % below;
        }

        void drawDay() {
            days++;
            int person = draw(people);
            if (!isPerson(person)) {
                return;
            }
            purse[person] = Math.min(purse[person] + draw(MOST_FOUND), MOST_PURSE);
            want[person] = draw(WISHES);
            int n = bestThrow(person);
            if (n != NONE) {
                grant(person, n, 0);
            } else {
                throwIn(person, draw(pieces));
            }
        }

        private void throwIn(int person, int piece) {
            if (isPiece(piece) && place[piece] == person) {
                place[piece] = BASIN;
            }
        }
    }

    /** CHANGE by the rule best, for every amount at once. */
    private static final class Change {
        // A set of PIECES has a key: how many, their HARM, their bits, in this order of weight.
        // Keys of sets without a common PIECE add up, so the least key for an amount comes of least keys.
        private static final int ONE_HARM = 1 << 10;
        private static final int ONE_PIECE = 1 << 20;
        private static final int BITS = ONE_HARM - 1;

        private final int[] least = new int[Square.AMOUNTS];

        int bitsBy(Square square, int rule, int c) {
            if (rule == Square.GREEDY) {
                return square.greedyFor(c);
            }
            weigh(square, square.basin());
            return fewestFor(c);
        }

        void weigh(Square square, int among) {
            Arrays.fill(least, NONE);
            least[0] = 0;
            for (int piece = 0; piece < square.pieces; piece++) {
                if (Square.isBit(among, piece)) {
                    int key = ONE_PIECE + square.harmOf(piece) * ONE_HARM + (1 << piece);
                    putIn(square.worthOf(piece), key);
                }
            }
        }

        // Downward, so that no amount is made with the same PIECE twice.
        private void putIn(int worth, int key) {
            for (int c = Square.AMOUNTS - 1; c >= worth; c--) {
                int rest = least[c - worth];
                if (rest != NONE && (least[c] == NONE || rest + key < least[c])) {
                    least[c] = rest + key;
                }
            }
        }

        int fewestFor(int c) {
            if (!Square.isAmount(c) || least[c] == NONE) {
                return NONE;
            }
            return least[c] & BITS;
        }

        int amountsOf(Square square, int among) {
            weigh(square, among);
            int many = 0;
            for (int c = 1; c < Square.AMOUNTS; c++) {
                many += least[c] == NONE ? 0 : 1;
            }
            return many;
        }
    }

    /** NOTHING, a PIECE's number, or a ROW. */
    private static final class Shelf {
        static final int LONGS = 3;
        static final int MOST_ELEMENTS = 160;
        private static final int BYTES = 0;
        private static final int SHORTS = 1;
        private static final int INTS = 2;
        private static final int ROWS = 100;

        private final long[] elements = new long[MOST_ELEMENTS];
        int held = NONE;
        int size = 0;

        void holdRow(int sort, int n) {
            Arrays.fill(elements, 0L);
            held = ROWS + sort;
            size = n;
        }

        void holdPiece(int piece) {
            held = piece;
            size = 0;
        }

        boolean isEmpty() {
            return held == NONE;
        }

        boolean isOtherThanRow() {
            return held >= 0 && held < ROWS;
        }

        boolean isOfOtherSort(Shelf other) {
            return !isEmpty() && !other.isEmpty() && held != other.held;
        }

        boolean hasElement(int i) {
            return i >= 0 && i < size;
        }

        boolean hasStretch(int i, int n) {
            return i >= 0 && i <= size && n >= 0 && n <= size - i;
        }

        void put(int i, long v) {
            if (hasElement(i)) {
                elements[i] = lowestBits(v);
            }
        }

        private long lowestBits(long v) {
            switch (held - ROWS) {
                case BYTES:
                    return (byte) v;
                case SHORTS:
                    return (short) v;
                case INTS:
                    return (int) v;
                default:
                    return v;
            }
        }

        void copyTo(Shelf other, int i, int j, int n) {
            if (hasStretch(i, n) && other.hasStretch(j, n)) {
                System.arraycopy(elements, i, other.elements, j, n);
            }
        }

        long whole(int i) {
            return hasElement(i) ? elements[i] : 0L;
        }

        int read(int i) {
            return (int) whole(i);
        }

        int readAll(int[] into) {
            int many = Math.min(size, into.length);
            for (int i = 0; i < many; i++) {
                into[i] = read(i);
            }
            return many;
        }

        int first(int two) {
            return read(2 * two);
        }

        int second(int two) {
            return read(2 * two + 1);
        }
    }

    /** Tells a SQUARE of its own what a ROW of letters says; it stops at the FAULT. */
    private static final class Reader {
        private static final int PIECE = 0;
        private static final int PERSON = 1;
        private static final int COST = 2;
        private static final int HAS = 3;
        private static final int BACK = 4;
        private static final int GREEDY = 5;
        private static final int WORDS = 7;

        final Square square = new Square();
        int fault = NONE;
        private final int[] letters = new int[Shelf.MOST_ELEMENTS];
        private int size = 0;
        private int at = 0;
        private int numberAt = 0;

        /** How many ITEMS the text, told over what there is, has; NONE: it has a FAULT. */
        int read(Shelf text, Square over) {
            square.take(over);
            size = text.readAll(letters);
            at = 0;
            fault = NONE;
            // Every ITEM takes an element at least, so there are no more of them than elements.
            for (int items = 1; items <= size; items++) {
                readItem();
                if (fault == NONE && at == size) {
                    return items;
                }
                readSign(';');
                if (fault != NONE) {
                    return NONE;
                }
            }
            fault = size;
            return NONE;
        }

        private void readItem() {
            int wordAt = at;
            int word = readWord();
            if (fault != NONE) {
                return;
            }
            switch (word) {
                case PIECE:
                    readPiece(wordAt);
                    break;
                case PERSON:
                    readPerson(wordAt);
                    break;
                case COST:
                    readCost();
                    break;
                case HAS:
                    readHas();
                    break;
                case BACK:
                    readBack();
                    break;
                default:
                    square.rule = word == GREEDY ? Square.GREEDY : Square.BEST;
            }
        }

        private void readPiece(int wordAt) {
            if (!square.hasRoomForPiece()) {
                fault = wordAt;
            }
            int kind = readNumber(0, Square.KINDS - 1);
            int a = readNumber(0, Square.MOST_A);
            int base = readNumber(1, Square.MOST_BASE);
            if (fault == NONE) {
                square.addPiece(kind, a, base);
            }
        }

        private void readPerson(int wordAt) {
            if (!square.hasRoomForPerson()) {
                fault = wordAt;
            }
            int purse = readNumber(0, Square.MOST_PURSE);
            int luck = readNumber(0, Square.MOST_LUCK);
            int want = readNumber(0, Square.WISHES - 1);
            if (fault == NONE) {
                square.addPerson(purse, luck, want);
            }
        }

        private void readCost() {
            int wish = readNumber(0, Square.WISHES - 1);
            int cost = readNumber(1, Square.MOST_COST);
            if (fault == NONE) {
                square.cost[wish] = cost;
            }
        }

        private void readHas() {
            int piece = readNumber(0, square.pieces - 1);
            if (fault == NONE && square.place[piece] != Square.BASIN) {
                fault = numberAt;
            }
            int person = readNumber(0, square.people - 1);
            if (fault == NONE) {
                square.place[piece] = person;
            }
        }

        private void readBack() {
            int piece = readNumber(0, square.pieces - 1);
            if (fault == NONE && square.place[piece] == Square.BASIN) {
                fault = numberAt;
            }
            if (fault == NONE) {
                square.place[piece] = Square.BASIN;
            }
        }

        // No word begins with another, so the first that stands whole is the one.
        private int readWord() {
            int longest = 0;
            for (int word = 0; word < WORDS; word++) {
                String spelt = spelt(word);
                int same = lettersAsIn(spelt);
                if (same == spelt.length()) {
                    at += same;
                    return word;
                }
                longest = Math.max(longest, same);
            }
            fault = at + longest;
            return NONE;
        }

        private static String spelt(int word) {
            switch (word) {
                case PIECE:
                    return "piece";
                case PERSON:
                    return "person";
                case COST:
                    return "cost";
                case HAS:
                    return "has";
                case BACK:
                    return "back";
                case GREEDY:
                    return "greedy";
                default:
                    return "best";
            }
        }

        private int lettersAsIn(String word) {
            for (int i = 0; i < word.length(); i++) {
                if (!stands(at + i, word.charAt(i))) {
                    return i;
                }
            }
            return word.length();
        }

        private boolean stands(int i, char sign) {
            return i >= 0 && i < size && letters[i] == sign;
        }

        private void readSign(char sign) {
            if (fault != NONE) {
                return;
            }
            if (stands(at, sign)) {
                at++;
            } else {
                fault = at;
            }
        }

        private int readNumber(int least, int most) {
            readSign(' ');
            if (fault != NONE) {
                return 0;
            }
            if (!isDigit(at)) {
                fault = at;
                return 0;
            }
            numberAt = at;
            int number = readDigit();
            if (isDigit(at)) {
                number = number * 10 + readDigit();
            }
            if (number < least || number > most) {
                fault = numberAt;
            }
            return number;
        }

        private boolean isDigit(int i) {
            return i >= 0 && i < size && letters[i] >= '0' && letters[i] <= '9';
        }

        private int readDigit() {
            if (!isDigit(at)) {
                return 0;
            }
            int digit = letters[at] - '0';
            at++;
            return digit;
        }
    }

    /** MOVES of PIECES, and THE TRACE of the latest. */
    private static final class Moves {
        private static final int FALLS = 0;
        private static final int RINGS = 1;
        private static final int SINKS = 2;
        private static final int MOVES = 3;
        private static final int MOST_KEPT = 20;
        private static final int DEEPEST = 20;
        // Of each MOVE the body that each KIND has; 0: it has none.
        private static final int[] BODIES = {
            10, 20, 0, 40, 51, 0, 70,
            11, 0, 30, 0, 0, 0, 71,
            12, 0, 0, 0, 50, 60, 0,
        };

        private final int[] bodies = new int[MOST_KEPT];
        int ran = 0;
        private int number = 0;
        private int kind = 0;
        private int a = 0;

        int bodyAt(int i) {
            return i >= 0 && i < ran && i < MOST_KEPT ? bodies[i] : NONE;
        }

        int answer(Square square, int piece, int move, int x) {
            ran = 0;
            if (move < 0 || move >= MOVES || !square.isPiece(piece)) {
                return 0;
            }
            number = piece;
            kind = square.kind[piece];
            a = square.a[piece];
            return answerFrom(this, kind, move, x, 0);
        }

        private void begin(int body) {
            if (ran < MOST_KEPT) {
                bodies[ran] = body;
            }
            ran++;
        }

        private static int bodyOf(int kind, int move) {
            return BODIES[move * Square.KINDS + kind];
        }

        // PIECE has a body for each MOVE, so one is found at last.
        private static int kindWithBody(int lowest, int move) {
            int kind = lowest;
            for (int step = 0; step < Square.KINDS && kind > 0 && bodyOf(kind, move) == 0; step++) {
                kind = Square.ABOVE[kind];
            }
            return kind;
        }

        private static int answerFrom(Moves m, int lowest, int move, int x, int depth) {
            if (depth > DEEPEST || !Square.isKind(lowest)) {
                return 0;
            }
            int own = kindWithBody(lowest, move);
            int above = Square.ABOVE[own];
            int body = bodyOf(own, move);
            int deeper = depth + 1;
            m.begin(body);
            switch (body) {
                case 10:
                    return x + m.number;
                case 11:
                    return answerFrom(m, m.kind, FALLS, x, deeper) * 2;
                case 12:
                    return answerFrom(m, m.kind, RINGS, x, deeper)
                            ^ answerFrom(m, m.kind, FALLS, x - m.a, deeper);
                case 20:
                    return answerFrom(m, above, FALLS, x, deeper) + m.a;
                case 30:
                    return answerFrom(m, above, RINGS, x, deeper) * 3;
                case 40:
                    return answerFrom(m, above, FALLS, x + 1, deeper);
                case 50:
                    return -answerFrom(m, above, SINKS, x, deeper);
                case 51:
                    return answerFrom(m, above, FALLS, x, deeper) - m.number;
                case 60:
                    return answerFrom(m, above, SINKS, x, deeper) ^ 5;
                case 70:
                    return answerFrom(m, above, FALLS, x, deeper) * 2;
                default:
                    return answerFrom(m, above, RINGS, x - m.a, deeper);
            }
        }
    }
}
