import java.util.Arrays;

/**
 * A desk for things that are put together by choices.
 *
 * All ways to give the questions of a book values are numbered, question 0 having the highest
 * digit, so that the least number is also the first by the values of question 0, 1 and so on.
 * A set of ways is a row of longs, a bit for each way. Sayings, values and wholes are such rows,
 * so nearly every call is a few walks over at most 313 longs.
 */
public final class ChoiceDesk {
    private static final int BOOKS = 4;
    private static final int QUESTIONS = 8;
    private static final int MOST_VALUES = 8;
    private static final int MOST_WAYS = 20000;
    private static final int MOST_WORDS = 313;
    private static final int SAYINGS = 48;
    private static final int TABLES = 4;
    private static final int ROWS = 20;
    private static final int TABLE_QUESTIONS = 3;
    private static final int RULES = 16;
    private static final int ORDERS = 12;
    private static final int PAIRS = 20;
    private static final int STEPS = 10;
    private static final int SHELVES = 8;
    private static final int MOST_ELEMENTS = 60;
    private static final int MOST_WEIGHT = 1000;
    private static final int MOST_PRICE = 1000000;

    private static final int ONE = 0;
    private static final int YES = 1;
    private static final int NUMBER = 2;
    private static final int MANY = 3;

    private static final int IS = 0;
    private static final int HAS = 1;
    private static final int NOT = 2;
    private static final int AND = 3;
    private static final int OR = 4;
    private static final int IF = 5;
    private static final int ALIKE = 6;
    private static final int AT_MOST = 7;
    private static final int IN = 8;

    private static final int HELD_NOTHING = 0;
    private static final int HELD_QUESTION = 1;
    private static final int HELD_SHORTS = 3;
    private static final int HELD_LONGS = 4;

    private static final int WRONG = -1;
    private static final int FULL = -2;
    private static final int NOTHING_TO_TELL = -2;
    private static final int BARRED = -3;
    private static final int DEAD_END = -4;
    private static final int NOTHING_HELD = -11;
    private static final int OTHER_KIND = -12;
    private static final int NO_PLACE = -13;
    private static final int BELOW_ZERO = -14;
    private static final int NO_FAILURE = -15;

    private static final int NONE = -1;
    // Above every number of a way, and eight of them still fit an int.
    private static final int NOWHERE = 1 << 20;
    private static final int[] AS_THEY_COME = {0, 1, 2, 3, 4, 5, 6, 7};

    private final Book[] books = new Book[BOOKS];
    private final Order[] orders = new Order[ORDERS];
    private int orderCount = 0;
    private final Question[] heldQuestions = new Question[SHELVES];
    private final short[][] heldShorts = new short[SHELVES][];
    private final long[][] heldLongs = new long[SHELVES][];
    // Workrooms that every call uses again, so that a call makes no large rows of its own.
    private final long[] fits = new long[MOST_WORDS];
    private final Sums sums = new Sums();
    private final Graph graph = new Graph();

    public ChoiceDesk() {
        for (int i = 0; i < BOOKS; i++) {
            books[i] = new Book();
        }
    }

    public int question(int book, int name, int kind, int how, int from) {
        Book b = bookAt(book);
        if (b == null || b.named(name) != NONE) {
            return WRONG;
        }
        Question q = newQuestion(name, kind, how, from);
        if (q == null) {
            return WRONG;
        }
        if (b.questionCount >= QUESTIONS || b.ways * q.values.length > MOST_WAYS) {
            return FULL;
        }
        if (b.sayingCount > 0 || b.tableCount > 0 || b.orderCount > 0) {
            return BARRED;
        }
        return b.addQuestion(q);
    }

    public int saying(int book, int kind, int x, int y) {
        Book b = bookAt(book);
        if (b == null || !b.canSay(kind, x, y)) {
            return WRONG;
        }
        return b.sayingCount >= SAYINGS ? FULL : b.addSaying(kind, x, y, sums);
    }

    public int table(int book, int x, int y, int z) {
        Book b = bookAt(book);
        if (b == null || !b.canLay(x, y, z)) {
            return WRONG;
        }
        return b.tableCount >= TABLES ? FULL : b.addTable(x, y, z);
    }

    public int row(int book, int table, int x, int y, int z) {
        Book b = bookAt(book);
        Table t = b == null ? null : b.tableAt(table);
        if (t == null || !t.takes(b, x, y, z)) {
            return WRONG;
        }
        if (t.rowCount >= ROWS) {
            return FULL;
        }
        t.addRow(b, x, y, z);
        b.sayAgain(table, sums);
        return t.rowCount;
    }

    public int rule(int book, int saying) {
        Book b = bookAt(book);
        if (b == null || b.sayingAt(saying) == null) {
            return WRONG;
        }
        if (b.ruleCount >= RULES) {
            return FULL;
        }
        return b.ruleOf(saying) != NONE ? BARRED : b.addRule(saying);
    }

    public int drop(int book, int saying) {
        Book b = bookAt(book);
        int at = b == null ? NONE : b.ruleOf(saying);
        return at == NONE ? WRONG : b.removeRule(at);
    }

    public int turn(int book, int question, int place) {
        Book b = bookAt(book);
        if (b == null || b.questionAt(question) == null || place < 0 || place >= b.questionCount) {
            return WRONG;
        }
        return b.moveInTurn(question, place);
    }

    public int wholes(int book) {
        Book b = bookAt(book);
        return b == null ? WRONG : members(b.wholes, b.wholes.length);
    }

    public int size(int book, int k) {
        Book b = bookAt(book);
        if (b == null || k < -1 || k > b.questionCount) {
            return WRONG;
        }
        graph.measure(b, sums);
        if (k >= 0) {
            return b.layers[k];
        }
        int places = 0;
        for (int i = 0; i <= b.questionCount; i++) {
            places += b.layers[i];
        }
        return places;
    }

    public int dead(int book, int question, int value) {
        Book b = bookAt(book);
        int place = placeIn(b, question, value);
        if (place == NONE) {
            return WRONG;
        }
        return meet(b.wholes, b.having(question, place)) ? 0 : 1;
    }

    public int needless(int book, int saying) {
        Book b = bookAt(book);
        int at = b == null ? NONE : b.ruleOf(saying);
        return at == NONE ? WRONG : b.isNeedless(at) ? 1 : 0;
    }

    public int same(int book, int other) {
        Book b = bookAt(book);
        Book c = bookAt(other);
        if (b == null || c == null) {
            return WRONG;
        }
        return haveSameWholes(b, c) ? 1 : 0;
    }

    public int start(int book) {
        Book b = bookAt(book);
        if (b == null) {
            return WRONG;
        }
        return orderCount >= ORDERS ? FULL : addOrder(new Order(b, book));
    }

    public int choose(int order, int question, int value) {
        Order o = orderAt(order);
        int place = placeIn(bookOf(o), question, value);
        if (place == NONE) {
            return WRONG;
        }
        if (!canBe(o, question, place)) {
            return BARRED;
        }
        o.put(question, place);
        return o.choiceCount;
    }

    public int back(int order, int question) {
        Order o = orderAt(order);
        Question q = questionIn(bookOf(o), question);
        if (q == null) {
            return WRONG;
        }
        int place = o.chosen[question];
        if (place == NONE) {
            return NOTHING_TO_TELL;
        }
        o.takeBack(question);
        return q.values[place];
    }

    public int may(int order, int question, int value) {
        Order o = orderAt(order);
        int place = placeIn(bookOf(o), question, value);
        if (place == NONE) {
            return WRONG;
        }
        return canBe(o, question, place) ? 1 : 0;
    }

    public int value(int order, int question) {
        Order o = orderAt(order);
        Question q = questionIn(bookOf(o), question);
        if (q == null) {
            return WRONG;
        }
        int place = o.chosen[question];
        if (place == NONE) {
            o.fitInto(fits, NONE);
            place = broughtPlace(o, question);
        }
        return place == NONE ? NOTHING_TO_TELL : q.values[place];
    }

    public int state(int order, int what) {
        Order o = orderAt(order);
        if (o == null) {
            return WRONG;
        }
        switch (what) {
            case 0:
                return o.chosenBits();
            case 1:
                return broughtBits(o);
            case 2:
                o.fitInto(fits, NONE);
                return members(fits, o.book.wholes.length);
            case 3:
                return o.bookNumber;
            default:
                return WRONG;
        }
    }

    public int choice(int order, int i) {
        Order o = orderAt(order);
        if (o == null || i < 0 || i >= o.choiceCount) {
            return WRONG;
        }
        return o.sequence[i];
    }

    public int why(int order, int question, int value) {
        Order o = orderAt(order);
        int place = placeIn(bookOf(o), question, value);
        if (place == NONE) {
            return WRONG;
        }
        return canBe(o, question, place) ? NOTHING_TO_TELL : leastReason(o, question, place);
    }

    public int standard(int book, int question, int value) {
        Book b = bookAt(book);
        int place = placeIn(b, question, value);
        if (place == NONE) {
            return WRONG;
        }
        int before = b.standards[question];
        b.standards[question] = place;
        return b.questions[question].values[before];
    }

    public int fill(int order) {
        Order o = orderAt(order);
        if (o == null) {
            return WRONG;
        }
        o.fitInto(fits, NONE);
        if (members(fits, o.book.wholes.length) == 0) {
            return DEAD_END;
        }
        int before = o.choiceCount;
        for (int k = 0; k < o.book.questionCount; k++) {
            int q = o.book.turn[k];
            if (o.chosen[q] == NONE) {
                chooseStandard(o, q);
            }
        }
        return o.choiceCount - before;
    }

    public int wish(int order, int question, int value, int weight) {
        Order o = orderAt(order);
        int place = placeIn(bookOf(o), question, value);
        if (place == NONE || weight < 0 || weight > MOST_WEIGHT) {
            return WRONG;
        }
        o.wished[question] = place;
        o.weights[question] = weight;
        return o.wishCount();
    }

    public int nearest(int order) {
        Order o = orderAt(order);
        if (o == null) {
            return WRONG;
        }
        int way = nearestWay(o, false);
        return way == NONE ? DEAD_END : sums.at[way];
    }

    public int near(int order, int question) {
        Order o = orderAt(order);
        if (questionIn(bookOf(o), question) == null) {
            return WRONG;
        }
        int way = nearestWay(o, false);
        return way == NONE ? DEAD_END : o.book.valueIn(way, question);
    }

    public int fewest(int order) {
        Order o = orderAt(order);
        if (o == null) {
            return WRONG;
        }
        int way = nearestWay(o, true);
        return way == NONE ? DEAD_END : sums.at[way];
    }

    public int price(int book, int question, int value, int v) {
        Book b = bookAt(book);
        int place = placeIn(b, question, value);
        if (place == NONE || !isPrice(v)) {
            return WRONG;
        }
        return b.prices.setPrice(question * MOST_VALUES + place, v) ? 1 : 0;
    }

    public int pair(int book, int questions, int values, int v) {
        Book b = bookAt(book);
        if (b == null || questions < 0 || values < 0 || !isPrice(v)) {
            return WRONG;
        }
        int x = questions / QUESTIONS;
        int y = questions % QUESTIONS;
        int a = b.placeOf(x, values / 10);
        int c = b.placeOf(y, values % 10);
        if (x == y || a == NONE || c == NONE) {
            return WRONG;
        }
        if (b.prices.pairCount >= PAIRS) {
            return FULL;
        }
        return b.prices.addPair(b.firstRows[x] + a, b.firstRows[y] + c, v);
    }

    public int step(int book, int set, int n, int v) {
        Book b = bookAt(book);
        if (b == null || !b.isSet(set) || !isPrice(v)) {
            return WRONG;
        }
        return b.prices.stepCount >= STEPS ? FULL : b.prices.addStep(set, n, v);
    }

    public long cost(int order) throws IllegalArgumentException, IllegalStateException {
        Order o = orderAt(order);
        if (o == null) {
            throw new IllegalArgumentException("no such order");
        }
        o.fitInto(fits, NONE);
        if (members(fits, o.book.wholes.length) != 1) {
            throw new IllegalStateException("not just one whole fits");
        }
        return leastPrice(o, 1);
    }

    public long limit(int order, boolean most) throws IllegalArgumentException, IllegalStateException {
        Order o = orderAt(order);
        if (o == null) {
            throw new IllegalArgumentException("no such order");
        }
        o.fitInto(fits, NONE);
        if (members(fits, o.book.wholes.length) == 0) {
            throw new IllegalStateException("no whole fits");
        }
        return most ? -leastPrice(o, -1) : leastPrice(o, 1);
    }

    public int carry(int order, int book) {
        Order old = orderAt(order);
        Book b = bookAt(book);
        if (old == null || b == null) {
            return WRONG;
        }
        if (orderCount >= ORDERS) {
            return FULL;
        }
        Order o = new Order(b, book);
        for (int i = 0; i < old.choiceCount; i++) {
            int from = old.sequence[i];
            Question q = old.book.questions[from];
            int to = b.named(q.name);
            int place = b.placeOf(to, q.values[old.chosen[from]]);
            if (place != NONE && canBe(o, to, place)) {
                o.put(to, place);
            } else {
                o.lostBits |= 1 << from;
            }
        }
        return addOrder(o);
    }

    public int lost(int order) {
        Order o = orderAt(order);
        return o == null ? WRONG : o.lostBits;
    }

    public int count(int book, int what) {
        if (what == 6) {
            return orderCount;
        }
        Book b = bookAt(book);
        if (b == null) {
            return WRONG;
        }
        switch (what) {
            case 0:
                return b.questionCount;
            case 1:
                return b.sayingCount;
            case 2:
                return b.tableCount;
            case 3:
                return b.ruleCount;
            case 4:
                return b.prices.pairCount;
            case 5:
                return b.prices.stepCount;
            default:
                return WRONG;
        }
    }

    public int keep(int d, int what, int book, int k) {
        if (!isShelf(d)) {
            return WRONG;
        }
        switch (what) {
            case HELD_NOTHING:
                hold(d, null, null, null);
                return 0;
            case HELD_QUESTION:
                return keepQuestion(d, bookAt(book), k);
            case HELD_SHORTS:
                return keepNearest(d, orderAt(k));
            case HELD_LONGS:
                return keepPrices(d, bookAt(book), k);
            default:
                return WRONG;
        }
    }

    public int make(int d, int what, int n) {
        if (!isShelf(d) || what != HELD_SHORTS && what != HELD_LONGS || n > MOST_ELEMENTS) {
            return WRONG;
        }
        if (n < 0) {
            return BELOW_ZERO;
        }
        if (what == HELD_SHORTS) {
            hold(d, null, new short[n], null);
        } else {
            hold(d, null, null, new long[n]);
        }
        return 0;
    }

    public long element(int d, int i) throws IllegalArgumentException, IllegalStateException {
        if (!isShelf(d)) {
            throw new IllegalArgumentException("no such shelf");
        }
        if (i < 0 || i >= heldLength(d)) {
            throw new IllegalStateException("no such place of a row");
        }
        return heldShorts[d] != null ? heldShorts[d][i] : heldLongs[d][i];
    }

    public int copy(int d, int i, int e, int j, int n) {
        if (!isShelf(d) || !isShelf(e)) {
            return WRONG;
        }
        if (isBare(d) || isBare(e)) {
            return NOTHING_HELD;
        }
        boolean ofShorts = heldShorts[d] != null && heldShorts[e] != null;
        boolean ofLongs = heldLongs[d] != null && heldLongs[e] != null;
        if (!ofShorts && !ofLongs) {
            return OTHER_KIND;
        }
        if (n < 0 || i < 0 || j < 0 || n > heldLength(d) - i || n > heldLength(e) - j) {
            return NO_PLACE;
        }
        if (ofShorts) {
            System.arraycopy(heldShorts[d], i, heldShorts[e], j, n);
        } else {
            System.arraycopy(heldLongs[d], i, heldLongs[e], j, n);
        }
        return n;
    }

    public int weight(int d) throws IllegalArgumentException, IllegalStateException {
        if (!isShelf(d)) {
            throw new IllegalArgumentException("no such shelf");
        }
        Question q = heldQuestions[d];
        if (q == null) {
            throw new IllegalStateException("no question is held");
        }
        return q.weigh();
    }

    public int toss(int d) {
        if (!isShelf(d)) {
            return WRONG;
        }
        if (isBare(d)) {
            return NOTHING_HELD;
        }
        Question q = heldQuestions[d];
        return q == null ? OTHER_KIND : caughtFailure(q);
    }

    private Book bookAt(int book) {
        return book < 0 || book >= BOOKS ? null : books[book];
    }

    private Order orderAt(int order) {
        return order < 0 || order >= orderCount ? null : orders[order];
    }

    private static Book bookOf(Order o) {
        return o == null ? null : o.book;
    }

    private static Question questionIn(Book b, int question) {
        return b == null ? null : b.questionAt(question);
    }

    private static int placeIn(Book b, int question, int value) {
        return b == null ? NONE : b.placeOf(question, value);
    }

    private static boolean isPrice(int v) {
        return v >= -MOST_PRICE && v <= MOST_PRICE;
    }

    private static boolean isShelf(int d) {
        return d >= 0 && d < SHELVES;
    }

    private int addOrder(Order o) {
        orders[orderCount] = o;
        o.book.orderCount++;
        orderCount++;
        return orderCount - 1;
    }

    private static Question newQuestion(int name, int kind, int how, int from) {
        switch (kind) {
            case ONE:
                return how < 1 || how > 6 ? null : new Question(name, firstValues(how));
            case YES:
                return how != 2 ? null : new YesQuestion(name);
            case NUMBER:
                boolean told = how >= 1 && how <= 6 && from >= -100 && from <= 100;
                return told ? new NumberQuestion(name, firstValues(how), from) : null;
            case MANY:
                return how < 0 ? null : newMany(name, how % 10, how / 10 % 10, how / 100);
            default:
                return null;
        }
    }

    private static Question newMany(int name, int things, int least, int greatest) {
        if (things < 1 || things > 3 || least > greatest || greatest > things) {
            return null;
        }
        return new ManyQuestion(name, setsOf(things, least, greatest), things);
    }

    private static int[] firstValues(int n) {
        return Arrays.copyOf(AS_THEY_COME, n);
    }

    private static int[] setsOf(int things, int least, int greatest) {
        int[] sets = new int[1 << things];
        int found = 0;
        for (int set = 0; set < 1 << things; set++) {
            int members = Integer.bitCount(set);
            if (members >= least && members <= greatest) {
                sets[found] = set;
                found++;
            }
        }
        return Arrays.copyOf(sets, found);
    }

    /** Whether the two rows have a way in common. */
    private static boolean meet(long[] a, long[] b) {
        int words = Math.min(a.length, b.length);
        for (int i = 0; i < words; i++) {
            if ((a[i] & b[i]) != 0) {
                return true;
            }
        }
        return false;
    }

    private static int members(long[] row, int words) {
        int members = 0;
        for (int i = 0; i < words; i++) {
            members += Long.bitCount(row[i]);
        }
        return members;
    }

    private static boolean hasWay(long[] row, int way) {
        return (row[way >> 6] >>> (way & 63) & 1) != 0;
    }

    private static void addWays(long[] row, int from, int to) {
        for (int i = from >> 6; i << 6 < to; i++) {
            int low = Math.max(from - (i << 6), 0);
            int high = Math.min(to - (i << 6), 64);
            row[i] |= -1L << low & -1L >>> 64 - high;
        }
    }

    private boolean canBe(Order o, int question, int place) {
        o.fitInto(fits, question);
        return meet(fits, o.book.having(question, place));
    }

    /** The only place that may be of a question without choice; the order's fits are laid out. */
    private int broughtPlace(Order o, int question) {
        int only = NONE;
        int n = o.book.questions[question].values.length;
        for (int place = 0; place < n; place++) {
            if (meet(fits, o.book.having(question, place))) {
                if (only != NONE) {
                    return NONE;
                }
                only = place;
            }
        }
        return only;
    }

    private int broughtBits(Order o) {
        o.fitInto(fits, NONE);
        int bits = 0;
        for (int q = 0; q < o.book.questionCount; q++) {
            if (o.chosen[q] == NONE && broughtPlace(o, q) != NONE) {
                bits |= 1 << q;
            }
        }
        return bits;
    }

    private int leastReason(Order o, int question, int place) {
        int others = o.chosenBits() & ~(1 << question);
        for (int members = 0; members < QUESTIONS; members++) {
            for (int set = 0; set <= others; set++) {
                boolean isNext = (set & ~others) == 0 && Integer.bitCount(set) == members;
                if (isNext && o.bars(set, question, place)) {
                    return set;
                }
            }
        }
        return others;
    }

    /** Narrows the fits that are laid out by what it chooses, so the next question sees it. */
    private void chooseStandard(Order o, int q) {
        int place = o.book.standards[q];
        if (!meet(fits, o.book.having(q, place))) {
            place = leastPlace(o.book, q);
        }
        o.put(q, place);
        o.book.narrow(fits, q, place);
    }

    private int leastPlace(Book b, int q) {
        int n = b.questions[q].values.length;
        for (int place = 0; place < n; place++) {
            if (meet(fits, b.having(q, place))) {
                return place;
            }
        }
        return 0;
    }

    /** The first fitting way with the least sum of wishes that it hasn't; the sums stay. */
    private int nearestWay(Order o, boolean eachIsOne) {
        o.fitInto(fits, NONE);
        sums.clear();
        for (int q = 0; q < o.book.questionCount; q++) {
            int n = o.book.questions[q].values.length;
            int weight = eachIsOne ? Math.min(o.weights[q], 1) : o.weights[q];
            for (int place = 0; place < n; place++) {
                sums.parts[q * MOST_VALUES + place] = place == o.wished[q] ? 0 : weight;
            }
        }
        sums.spread(o.book, AS_THEY_COME);
        int best = NONE;
        for (int way = 0; way < o.book.ways; way++) {
            if (hasWay(fits, way) && (best == NONE || sums.at[way] < sums.at[best])) {
                best = way;
            }
        }
        return best;
    }

    /** The least price times sign among the fits that are laid out, of which there is one. */
    private long leastPrice(Order o, int sign) {
        long[] priced = o.book.prices.reckon(o.book, sums);
        long least = Long.MAX_VALUE;
        for (int way = 0; way < o.book.ways; way++) {
            if (hasWay(fits, way)) {
                least = Math.min(least, sign * priced[way]);
            }
        }
        return least;
    }

    private boolean haveSameWholes(Book b, Book c) {
        int wholes = members(b.wholes, b.wholes.length);
        if (b.questionCount != c.questionCount || wholes != members(c.wholes, c.wholes.length)) {
            return false;
        }
        sums.clear();
        for (int q = 0; q < b.questionCount; q++) {
            int other = c.named(b.questions[q].name);
            if (other == NONE) {
                return false;
            }
            int[] values = b.questions[q].values;
            for (int i = 0; i < values.length; i++) {
                int place = c.placeOf(other, values[i]);
                int part = place == NONE ? NOWHERE : place * c.strides[other];
                sums.parts[q * MOST_VALUES + i] = part;
            }
        }
        sums.spread(b, AS_THEY_COME);
        for (int way = 0; way < b.ways; way++) {
            int there = sums.at[way];
            if (hasWay(b.wholes, way) && (there >= c.ways || !hasWay(c.wholes, there))) {
                return false;
            }
        }
        return true;
    }

    private void hold(int d, Question q, short[] shorts, long[] longs) {
        heldQuestions[d] = q;
        heldShorts[d] = shorts;
        heldLongs[d] = longs;
    }

    private boolean isBare(int d) {
        return heldQuestions[d] == null && heldShorts[d] == null && heldLongs[d] == null;
    }

    private int heldLength(int d) {
        if (heldShorts[d] != null) {
            return heldShorts[d].length;
        }
        return heldLongs[d] != null ? heldLongs[d].length : 0;
    }

    private int keepQuestion(int d, Book b, int k) {
        Question q = questionIn(b, k);
        if (q == null) {
            return WRONG;
        }
        hold(d, q, null, null);
        return 0;
    }

    private int keepNearest(int d, Order o) {
        if (o == null) {
            return WRONG;
        }
        int way = nearestWay(o, false);
        if (way == NONE) {
            return DEAD_END;
        }
        short[] values = new short[o.book.questionCount];
        for (int q = 0; q < values.length; q++) {
            values[q] = (short) o.book.valueIn(way, q);
        }
        hold(d, null, values, null);
        return 0;
    }

    private int keepPrices(int d, Book b, int k) {
        Question q = questionIn(b, k);
        if (q == null) {
            return WRONG;
        }
        long[] longs = new long[q.values.length];
        for (int place = 0; place < longs.length; place++) {
            longs[place] = b.prices.ofValues[k * MOST_VALUES + place];
        }
        hold(d, null, null, longs);
        return 0;
    }

    private static int caughtFailure(Question q) {
        try {
            q.fail();
        } catch (IllegalStateException e) {
            return q.number;
        }
        return NO_FAILURE;
    }

    /** A question that takes one of its values, and what the other kinds share with it. */
    private static class Question {
        final int name;
        final int[] values;
        // Its number in its book, which a shelf that holds it can't tell.
        int number = NONE;

        Question(int name, int[] values) {
            this.name = name;
            this.values = values;
        }

        int placeOf(int value) {
            for (int i = 0; i < values.length; i++) {
                if (values[i] == value) {
                    return i;
                }
            }
            return NONE;
        }

        int worthOf(int value) {
            return value;
        }

        boolean hasThing(int i) {
            return false;
        }

        int weigh() {
            return 10 + values.length;
        }

        void fail() {
        }
    }

    private static final class YesQuestion extends Question {
        YesQuestion(int name) {
            super(name, firstValues(2));
        }

        @Override
        int weigh() {
            return 2 * super.weigh();
        }

        @Override
        void fail() {
            throw new IllegalStateException("a yes fails");
        }
    }

    private static final class NumberQuestion extends Question {
        final int from;

        NumberQuestion(int name, int[] values, int from) {
            super(name, values);
            this.from = from;
        }

        @Override
        int worthOf(int value) {
            return from + value;
        }

        @Override
        int weigh() {
            return super.weigh() + from;
        }

        @Override
        void fail() {
            throw new IllegalStateException("a number fails");
        }
    }

    private static final class ManyQuestion extends Question {
        final int things;

        ManyQuestion(int name, int[] sets, int things) {
            super(name, sets);
            this.things = things;
        }

        @Override
        int worthOf(int value) {
            return Integer.bitCount(value);
        }

        @Override
        boolean hasThing(int i) {
            return i >= 0 && i < things;
        }

        @Override
        int weigh() {
            return super.weigh() + 100;
        }

        @Override
        void fail() {
            throw new IllegalStateException("many fail");
        }
    }

    private static final class Saying {
        final int kind;
        final int x;
        final int y;
        // The tables that it rests on, as bits: their new rows change its own row of ways.
        final int tables;
        final long[] ways;

        Saying(int kind, int x, int y, int tables, long[] ways) {
            this.kind = kind;
            this.x = x;
            this.y = y;
            this.tables = tables;
            this.ways = ways;
        }
    }

    private static final class Table {
        final int[] questions;
        // Rows of values' places, one behind the other.
        final int[] places = new int[ROWS * TABLE_QUESTIONS];
        int rowCount = 0;

        Table(int[] questions) {
            this.questions = questions;
        }

        boolean takes(Book b, int x, int y, int z) {
            return b.placeOf(questions[0], x) != NONE
                && (questions.length < 2 || b.placeOf(questions[1], y) != NONE)
                && (questions.length < 3 || b.placeOf(questions[2], z) != NONE);
        }

        void addRow(Book b, int x, int y, int z) {
            int at = rowCount * TABLE_QUESTIONS;
            places[at] = b.placeOf(questions[0], x);
            places[at + 1] = questions.length < 2 ? 0 : b.placeOf(questions[1], y);
            places[at + 2] = questions.length < 3 ? 0 : b.placeOf(questions[2], z);
            rowCount++;
        }

        long waysIn(Book b, int word) {
            long found = 0;
            for (int r = 0; r < rowCount; r++) {
                long ways = -1L;
                for (int i = 0; i < questions.length; i++) {
                    ways &= b.having(questions[i], places[r * TABLE_QUESTIONS + i])[word];
                }
                found |= ways;
            }
            return found;
        }
    }

    private static final class Book {
        final Question[] questions = new Question[QUESTIONS];
        int questionCount = 0;
        final int[] turn = new int[QUESTIONS];
        final int[] standards = new int[QUESTIONS];
        // A way's number is the sum of its values' places, each times the question's stride.
        final int[] strides = new int[QUESTIONS];
        int ways = 1;
        // For each value of each question the ways that have it, from the question's first row.
        long[][] rowsOfValues = new long[0][0];
        final int[] firstRows = new int[QUESTIONS];
        long[] all = {1};
        long[] wholes = {1};
        final Saying[] sayings = new Saying[SAYINGS];
        int sayingCount = 0;
        final Table[] tables = new Table[TABLES];
        int tableCount = 0;
        final int[] rules = new int[RULES];
        int ruleCount = 0;
        int orderCount = 0;
        final int[] layers = new int[QUESTIONS + 1];
        boolean isMeasured = false;
        final Prices prices = new Prices();

        Question questionAt(int q) {
            return q < 0 || q >= questionCount ? null : questions[q];
        }

        Saying sayingAt(int s) {
            return s < 0 || s >= sayingCount ? null : sayings[s];
        }

        Table tableAt(int t) {
            return t < 0 || t >= tableCount ? null : tables[t];
        }

        boolean isSet(int set) {
            return set >= 0 && set < 1 << questionCount;
        }

        int named(int name) {
            for (int q = 0; q < questionCount; q++) {
                if (questions[q].name == name) {
                    return q;
                }
            }
            return NONE;
        }

        int placeOf(int q, int value) {
            Question question = questionAt(q);
            return question == null ? NONE : question.placeOf(value);
        }

        long[] having(int q, int place) {
            return rowsOfValues[firstRows[q] + place];
        }

        int valueIn(int way, int q) {
            int[] values = questions[q].values;
            for (int place = 1; place < values.length; place++) {
                if (hasWay(having(q, place), way)) {
                    return values[place];
                }
            }
            return values[0];
        }

        int addQuestion(Question q) {
            questions[questionCount] = q;
            q.number = questionCount;
            turn[questionCount] = questionCount;
            questionCount++;
            ways *= q.values.length;
            layOutWays();
            return questionCount - 1;
        }

        private void layOutWays() {
            int words = ways + 63 >> 6;
            int rows = 0;
            for (int q = 0; q < questionCount; q++) {
                firstRows[q] = rows;
                rows += questions[q].values.length;
            }
            rowsOfValues = new long[rows][words];
            int stride = 1;
            for (int q = questionCount - 1; q >= 0; q--) {
                strides[q] = stride;
                stride *= questions[q].values.length;
                layOutValues(q, stride);
            }
            all = new long[words];
            addWays(all, 0, ways);
            wholes = all.clone();
            isMeasured = false;
            prices.isReckoned = false;
        }

        private void layOutValues(int q, int block) {
            int n = questions[q].values.length;
            for (int place = 0; place < n; place++) {
                long[] row = having(q, place);
                int from = place * strides[q];
                for (int start = from; start < ways; start += block) {
                    addWays(row, start, start + strides[q]);
                }
            }
        }

        boolean canSay(int kind, int x, int y) {
            switch (kind) {
                case IS:
                    return placeOf(x, y) != NONE;
                case HAS:
                    Question q = questionAt(x);
                    return q != null && q.hasThing(y);
                case NOT:
                    return sayingAt(x) != null;
                case AND:
                case OR:
                case IF:
                case ALIKE:
                    return sayingAt(x) != null && sayingAt(y) != null;
                case AT_MOST:
                    return isSet(x);
                case IN:
                    return tableAt(x) != null;
                default:
                    return false;
            }
        }

        int addSaying(int kind, int x, int y, Sums sums) {
            Saying s = new Saying(kind, x, y, tablesBehind(kind, x, y), new long[all.length]);
            layOutSaying(s, sums);
            sayings[sayingCount] = s;
            sayingCount++;
            return sayingCount - 1;
        }

        private int tablesBehind(int kind, int x, int y) {
            switch (kind) {
                case NOT:
                    return sayings[x].tables;
                case AND:
                case OR:
                case IF:
                case ALIKE:
                    return sayings[x].tables | sayings[y].tables;
                case IN:
                    return 1 << x;
                default:
                    return 0;
            }
        }

        private void layOutSaying(Saying s, Sums sums) {
            switch (s.kind) {
                case IS:
                    System.arraycopy(having(s.x, placeOf(s.x, s.y)), 0, s.ways, 0, all.length);
                    break;
                case HAS:
                    layOutThing(s);
                    break;
                case AT_MOST:
                    layOutAtMost(s, sums);
                    break;
                case IN:
                    Table t = tables[s.x];
                    for (int i = 0; i < all.length; i++) {
                        s.ways[i] = t.waysIn(this, i);
                    }
                    break;
                default:
                    long[] a = sayings[s.x].ways;
                    long[] b = s.kind == NOT ? a : sayings[s.y].ways;
                    for (int i = 0; i < all.length; i++) {
                        s.ways[i] = all[i] & joined(s.kind, a[i], b[i]);
                    }
                    break;
            }
        }

        private void layOutThing(Saying s) {
            int[] values = questions[s.x].values;
            for (int place = 0; place < values.length; place++) {
                if ((values[place] >> s.y & 1) != 0) {
                    long[] row = having(s.x, place);
                    for (int i = 0; i < row.length; i++) {
                        s.ways[i] |= row[i];
                    }
                }
            }
        }

        private void layOutAtMost(Saying s, Sums sums) {
            sums.addWorths(this, s.x);
            for (int way = 0; way < ways; way++) {
                if (sums.at[way] <= s.y) {
                    s.ways[way >> 6] |= 1L << (way & 63);
                }
            }
        }

        private static long joined(int kind, long a, long b) {
            switch (kind) {
                case NOT:
                    return ~a;
                case AND:
                    return a & b;
                case OR:
                    return a | b;
                case IF:
                    return ~a | b;
                default:
                    return ~(a ^ b);
            }
        }

        /** A saying stands behind those it is made of, so one walk reaches all that rest on t. */
        void sayAgain(int t, Sums sums) {
            for (int s = 0; s < sayingCount; s++) {
                if ((sayings[s].tables >> t & 1) != 0) {
                    layOutSaying(sayings[s], sums);
                }
            }
            findWholes();
        }

        boolean canLay(int x, int y, int z) {
            boolean hasY = questionAt(y) != null && y != x;
            boolean hasZ = questionAt(z) != null && z != x && z != y;
            return questionAt(x) != null
                && (y == NONE && z == NONE || hasY && (z == NONE || hasZ));
        }

        int addTable(int x, int y, int z) {
            int[] row = {x, y, z};
            tables[tableCount] = new Table(Arrays.copyOf(row, y == NONE ? 1 : z == NONE ? 2 : 3));
            tableCount++;
            return tableCount - 1;
        }

        /** The place of a saying among the rules. */
        int ruleOf(int saying) {
            for (int r = 0; r < ruleCount; r++) {
                if (rules[r] == saying) {
                    return r;
                }
            }
            return NONE;
        }

        int addRule(int saying) {
            rules[ruleCount] = saying;
            ruleCount++;
            findWholes();
            return ruleCount;
        }

        int removeRule(int at) {
            ruleCount--;
            rules[at] = rules[ruleCount];
            findWholes();
            return ruleCount;
        }

        private void findWholes() {
            for (int i = 0; i < all.length; i++) {
                wholes[i] = keptWord(i, NONE);
            }
            isMeasured = false;
        }

        /** A word of the ways that keep all rules but the one at a place. */
        private long keptWord(int i, int but) {
            long word = all[i];
            for (int r = 0; r < ruleCount; r++) {
                if (r != but) {
                    word &= sayings[rules[r]].ways[i];
                }
            }
            return word;
        }

        boolean isNeedless(int at) {
            for (int i = 0; i < all.length; i++) {
                if (keptWord(i, at) != wholes[i]) {
                    return false;
                }
            }
            return true;
        }

        int moveInTurn(int q, int place) {
            int was = 0;
            for (int k = 0; k < questionCount; k++) {
                if (turn[k] == q) {
                    was = k;
                }
            }
            if (was < place) {
                System.arraycopy(turn, was + 1, turn, was, place - was);
            } else {
                System.arraycopy(turn, place, turn, place + 1, was - place);
            }
            turn[place] = q;
            isMeasured = false;
            return was;
        }

        void narrow(long[] row, int q, int place) {
            long[] by = having(q, place);
            for (int i = 0; i < by.length; i++) {
                row[i] &= by[i];
            }
        }
    }

    /** Sums over all ways of a book, from a part for each value of each question. */
    private static final class Sums {
        int[] at = new int[64];
        final int[] parts = new int[QUESTIONS * MOST_VALUES];

        void clear() {
            Arrays.fill(parts, 0);
        }

        /** The ways are numbered by the order of questions given, the first having the highest digit. */
        void spread(Book b, int[] order) {
            if (at.length < b.ways) {
                at = new int[Math.max(b.ways, Math.min(2 * at.length, MOST_WAYS))];
            }
            at[0] = 0;
            int length = 1;
            for (int k = 0; k < b.questionCount; k++) {
                int q = order[k];
                int n = b.questions[q].values.length;
                // From the end, so that no sum is written over before it has been read.
                for (int i = length - 1; i >= 0; i--) {
                    int sum = at[i];
                    for (int place = n - 1; place >= 0; place--) {
                        at[i * n + place] = sum + parts[q * MOST_VALUES + place];
                    }
                }
                length *= n;
            }
        }

        void addWorths(Book b, int set) {
            clear();
            for (int q = 0; q < b.questionCount; q++) {
                if ((set >> q & 1) != 0) {
                    Question question = b.questions[q];
                    for (int i = 0; i < question.values.length; i++) {
                        parts[q * MOST_VALUES + i] = question.worthOf(question.values[i]);
                    }
                }
            }
            spread(b, AS_THEY_COME);
        }
    }

    /** Counts the places of a book's graph layer by layer, from the last one up. */
    private static final class Graph {
        private int[] spare = new int[32];
        // Where a set of ways to go on is found again: the first of its kind, and one; 0 is free.
        private int[] slots = new int[64];

        void measure(Book b, Sums sums) {
            if (b.isMeasured) {
                return;
            }
            layOutLeaves(b, sums);
            int[] below = sums.at;
            int[] above = spare;
            int length = b.ways;
            b.layers[b.questionCount] = members(b.wholes, b.wholes.length) > 0 ? 1 : 0;
            for (int k = b.questionCount - 1; k >= 0; k--) {
                int n = b.questions[b.turn[k]].values.length;
                b.layers[k] = b.layers[k + 1];
                // A question of one value tells no places apart, and there is no room to fold it.
                if (n > 1) {
                    length /= n;
                    b.layers[k] = foldLayer(below, above, length, n);
                    int[] folded = above;
                    above = below;
                    below = folded;
                }
            }
            b.isMeasured = true;
        }

        /** Gives each way, by the turn, 1 if it is a whole, else 0, and makes room for the rest. */
        private void layOutLeaves(Book b, Sums sums) {
            sums.clear();
            for (int q = 0; q < b.questionCount; q++) {
                int n = b.questions[q].values.length;
                for (int place = 0; place < n; place++) {
                    sums.parts[q * MOST_VALUES + place] = place * b.strides[q];
                }
            }
            sums.spread(b, b.turn);
            for (int i = 0; i < b.ways; i++) {
                sums.at[i] = hasWay(b.wholes, sums.at[i]) ? 1 : 0;
            }
            if (spare.length < sums.at.length / 2) {
                spare = new int[sums.at.length / 2];
                slots = new int[powerFrom(sums.at.length)];
            }
        }

        private static int powerFrom(int least) {
            int power = 64;
            for (int i = 0; i < 20 && power < least; i++) {
                power *= 2;
            }
            return power;
        }

        /** Numbers the different n-tuples of below from 1 (0: all of it is empty): how many. */
        private int foldLayer(int[] below, int[] above, int length, int n) {
            int room = Math.min(powerFrom(2 * length), slots.length);
            for (int i = 0; i < room; i++) {
                slots[i] = 0;
            }
            int known = 0;
            for (int i = 0; i < length; i++) {
                if (isEmpty(below, i * n, n)) {
                    above[i] = 0;
                    continue;
                }
                int slot = slotOf(below, i, n, room - 1);
                if (slots[slot] == 0) {
                    slots[slot] = i + 1;
                    known++;
                    above[i] = known;
                } else {
                    above[i] = above[slots[slot] - 1];
                }
            }
            return known;
        }

        private static boolean isEmpty(int[] below, int from, int n) {
            for (int i = from; i < from + n; i++) {
                if (below[i] != 0) {
                    return false;
                }
            }
            return true;
        }

        /** The slot of the same tuple, or the free one where it belongs; half of them are free. */
        private int slotOf(int[] below, int tuple, int n, int mask) {
            int mix = 0;
            for (int i = tuple * n; i < tuple * n + n; i++) {
                mix = (mix ^ below[i]) * 0x9E3779B1;
                mix ^= mix >>> 15;
            }
            int slot = mix & mask;
            for (int tries = 0; tries <= mask; tries++) {
                if (slots[slot] == 0 || areAlike(below, (slots[slot] - 1) * n, tuple * n, n)) {
                    return slot;
                }
                slot = slot + 1 & mask;
            }
            return slot;
        }

        private static boolean areAlike(int[] below, int a, int b, int n) {
            for (int i = 0; i < n; i++) {
                if (below[a + i] != below[b + i]) {
                    return false;
                }
            }
            return true;
        }
    }

    private static final class Prices {
        final int[] ofValues = new int[QUESTIONS * MOST_VALUES];
        private final int[] pairFirsts = new int[PAIRS];
        private final int[] pairSeconds = new int[PAIRS];
        private final int[] pairPrices = new int[PAIRS];
        int pairCount = 0;
        private final int[] stepSets = new int[STEPS];
        private final int[] stepLeasts = new int[STEPS];
        private final int[] stepPrices = new int[STEPS];
        int stepCount = 0;
        private long[] ofWays = new long[1];
        boolean isReckoned = false;

        boolean setPrice(int at, int v) {
            boolean isOther = ofValues[at] != v;
            ofValues[at] = v;
            isReckoned = isReckoned && !isOther;
            return isOther;
        }

        int addPair(int firstRow, int secondRow, int v) {
            pairFirsts[pairCount] = firstRow;
            pairSeconds[pairCount] = secondRow;
            pairPrices[pairCount] = v;
            pairCount++;
            isReckoned = false;
            return pairCount;
        }

        int addStep(int set, int least, int v) {
            stepSets[stepCount] = set;
            stepLeasts[stepCount] = least;
            stepPrices[stepCount] = v;
            stepCount++;
            isReckoned = false;
            return stepCount;
        }

        /** The prices of all ways, kept until one of the parts changes. */
        long[] reckon(Book b, Sums sums) {
            if (isReckoned) {
                return ofWays;
            }
            if (ofWays.length < b.ways) {
                ofWays = new long[b.ways];
            }
            System.arraycopy(ofValues, 0, sums.parts, 0, ofValues.length);
            sums.spread(b, AS_THEY_COME);
            for (int way = 0; way < b.ways; way++) {
                ofWays[way] = sums.at[way];
            }
            for (int i = 0; i < pairCount; i++) {
                addPairPrice(b, i);
            }
            for (int i = 0; i < stepCount; i++) {
                addStepPrice(b, i, sums);
            }
            isReckoned = true;
            return ofWays;
        }

        private void addPairPrice(Book b, int i) {
            long[] first = b.rowsOfValues[pairFirsts[i]];
            long[] second = b.rowsOfValues[pairSeconds[i]];
            for (int word = 0; word < first.length; word++) {
                long both = first[word] & second[word];
                for (int bit = 0; bit < 64 && both >>> bit != 0; bit++) {
                    if ((both >>> bit & 1) != 0) {
                        ofWays[(word << 6) + bit] += pairPrices[i];
                    }
                }
            }
        }

        private void addStepPrice(Book b, int i, Sums sums) {
            sums.addWorths(b, stepSets[i]);
            for (int way = 0; way < b.ways; way++) {
                if (sums.at[way] >= stepLeasts[i]) {
                    ofWays[way] += stepPrices[i];
                }
            }
        }
    }

    private static final class Order {
        final Book book;
        final int bookNumber;
        // Places of values by question, NONE without a choice, and the questions as they were chosen.
        final int[] chosen = new int[QUESTIONS];
        final int[] sequence = new int[QUESTIONS];
        int choiceCount = 0;
        // A weight of 0 is no wish.
        final int[] wished = new int[QUESTIONS];
        final int[] weights = new int[QUESTIONS];
        int lostBits = 0;

        Order(Book book, int bookNumber) {
            this.book = book;
            this.bookNumber = bookNumber;
            Arrays.fill(chosen, NONE);
        }

        /** Lays out the wholes that have all choices but that of one question. */
        void fitInto(long[] row, int but) {
            System.arraycopy(book.wholes, 0, row, 0, book.wholes.length);
            for (int i = 0; i < choiceCount; i++) {
                if (sequence[i] != but) {
                    book.narrow(row, sequence[i], chosen[sequence[i]]);
                }
            }
        }

        /** Whether no whole has the choices of a set of questions with that value. */
        boolean bars(int set, int question, int place) {
            long[] wanted = book.having(question, place);
            for (int i = 0; i < wanted.length; i++) {
                long word = book.wholes[i] & wanted[i];
                for (int q = 0; q < book.questionCount && word != 0; q++) {
                    if ((set >> q & 1) != 0) {
                        word &= book.having(q, chosen[q])[i];
                    }
                }
                if (word != 0) {
                    return false;
                }
            }
            return true;
        }

        void put(int question, int place) {
            takeBack(question);
            chosen[question] = place;
            sequence[choiceCount] = question;
            choiceCount++;
        }

        void takeBack(int question) {
            int left = 0;
            for (int i = 0; i < choiceCount; i++) {
                if (sequence[i] != question) {
                    sequence[left] = sequence[i];
                    left++;
                }
            }
            choiceCount = left;
            chosen[question] = NONE;
        }

        int chosenBits() {
            int bits = 0;
            for (int i = 0; i < choiceCount; i++) {
                bits |= 1 << sequence[i];
            }
            return bits;
        }

        int wishCount() {
            int wishes = 0;
            for (int q = 0; q < QUESTIONS; q++) {
                wishes += weights[q] > 0 ? 1 : 0;
            }
            return wishes;
        }
    }
}
