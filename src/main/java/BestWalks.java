import java.util.NoSuchElementException;

/** What is best, what next, and next, of five kinds of things; ../shared/DOC.md says what each call promises. */
public final class BestWalks {
    public static final int NONE = -1;

    private static final int FEWER = -2;
    private static final int NEVER_OPENED = -3;
    private static final int STALE = -4;
    private static final int NO_SUCH_ROW = -100;
    private static final int NO_SUCH_KIND = -101;
    private static final int LAW_FAULT = -10000;
    private static final int SOUND = -1;

    private static final int CHOICES = 0;
    private static final int TREES = 1;
    private static final int PAIRINGS = 2;
    private static final int SUBSETS = 3;
    private static final int ROUTES = 4;
    private static final int KINDS = 5;

    private static final int LISTS = 4;
    private static final int LIST_MOST = 6;
    private static final int NODES = 7;
    private static final int EDGE_MOST = 12;
    private static final int PEOPLE = 5;
    private static final int VALUE_MOST = 99;

    private static final int TEXT_MOST = 80;
    private static final int RULE_MOST = 40;
    private static final int DAY_MOST = 60;
    private static final int ROW_MOST = 8;
    private static final int LETTERS = 12;
    private static final int PLACE_MOST = 400;
    private static final int UNDO_MOST = 10;
    private static final int KEEPS = 2;
    private static final int CURSORS = 3;
    private static final int CLUE_MOST = 10;
    private static final int YEARS_MOST = 40;
    private static final int DRAWS_MOST = 3;

    // 6 * 6 * 6 * 6; 6 of 12 edges; 5!; 2 ^ 6; all ways from one node to another through any of 5 more.
    private static final int[] MOST_OF_KIND = {1296, 924, 120, 64, 326};
    // Steps of the sort by steps; the last one, 1, makes the order whole.
    private static final int[] SORT_STEPS = {701, 301, 132, 57, 23, 10, 4, 1};
    // The greatest v that heard() takes, by what it was heard of.
    private static final int[] CLUE_GREATEST = {30, 11, 11, 8, 11};

    private final Text text = new Text();
    private final State state = new State();
    private final State before = new State();
    private final Acts acts = new Acts();
    private final History history = new History();
    private final State[] kept = new State[KEEPS];
    private final boolean[] isKept = new boolean[KEEPS];
    private final Order[] orders = new Order[KINDS];
    private final Finder finder = new Finder();
    private final Cursor[] cursors = new Cursor[CURSORS];
    private final Clues clues = new Clues();
    private final Told told = new Told();
    private final int[] found = new int[LIST_MOST];
    private Rule ruling = new Rule();
    private Rule draft = new Rule();
    private int drawn;

    public BestWalks() {
        for (int i = 0; i < KEEPS; i++) {
            kept[i] = new State();
        }
        for (int kind = 0; kind < KINDS; kind++) {
            orders[kind] = new Order(MOST_OF_KIND[kind]);
        }
        for (int c = 0; c < CURSORS; c++) {
            cursors[c] = new Cursor();
        }
    }

    // ---- lists, edges, the table

    public int sign(int v) {
        return text.append(v) ? text.length() : NONE;
    }

    public boolean end(int n) {
        return text.cut(n);
    }

    public int lists(int x) {
        int answer = text.numbersInto(found);
        text.clear();
        if (answer < 0) {
            return answer;
        }
        before.copyFrom(state);
        return settled(state.setList(x, found, answer));
    }

    public int rule() {
        int fault = draft.read(text);
        text.clear();
        if (fault != SOUND) {
            return -1 - fault;
        }
        Rule old = ruling;
        ruling = draft;
        draft = old;
        changed();
        return 0;
    }

    public int number(int x, int place) throws NoSuchElementException {
        int number = state.numberAt(x, place);
        if (number < 0) {
            throw new NoSuchElementException("no such number");
        }
        return number;
    }

    public int edge(int i, int what) throws NoSuchElementException {
        int pair = state.pairOfEdge(i);
        if (pair < 0 || what < 0 || what > 2) {
            throw new NoSuchElementException("no such edge");
        }
        int low = pair / NODES;
        int high = pair % NODES;
        if (what == 2) {
            return state.weight(low, high);
        }
        return what == 0 ? low : high;
    }

    public int sheet(int kind, int n, int f, int step) {
        if (kind < 0 || kind > 3 || n > EDGE_MOST) {
            return NONE;
        }
        if (kind != 3 && n < 0) {
            return -2;
        }
        int sum = state.weigh(kind, kind == 3 ? 0 : n, f, step);
        changed();
        return kind == 3 ? -3 : sum;
    }

    // ---- changes

    public int puts(int x, int v) {
        before.copyFrom(state);
        return settled(state.putNumber(x, v));
    }

    public int takes(int x, int place) {
        before.copyFrom(state);
        return settled(state.takeNumber(x, place));
    }

    public int joins(int one, int other, int w) {
        before.copyFrom(state);
        return settled(state.joinNodes(one, other, w));
    }

    public int costs(int person, int job, int v) {
        before.copyFrom(state);
        return settled(state.setCost(person, job, v));
    }

    public int sets(int what, int v) {
        before.copyFrom(state);
        return settled(state.setWhat(what, v));
    }

    public int ends(int one, int other) {
        before.copyFrom(state);
        return settled(state.setEnds(one, other));
    }

    public int day() {
        int fault = Acts.fault(text);
        if (fault != SOUND) {
            text.clear();
            return -1 - fault;
        }
        before.copyFrom(state);
        int done = acts.perform(text, state);
        text.clear();
        settled(done > 0 ? done : NONE);
        told.only(acts.stopped() ? 1 : 0);
        return done;
    }

    public int undo() {
        if (!history.takeLatest(state)) {
            return NONE;
        }
        changed();
        return history.size();
    }

    // ---- in order

    public int best(int kind, int k) {
        if (!isKind(kind) || !isPlace(k, PLACE_MOST)) {
            return NONE;
        }
        Order order = orderOf(kind);
        if (k > order.size()) {
            return FEWER;
        }
        return tellOne(order, k);
    }

    public int many(int kind) {
        if (!isKind(kind)) {
            return NONE;
        }
        Order order = orderOf(kind);
        int size = order.size();
        told.clear();
        if (size > 0) {
            told.add(order.costAt(1));
            told.add(order.upTo(order.costAt(1)));
            told.add(order.costAt(size));
        }
        return size;
    }

    public int below(int kind, int c) {
        if (!isKind(kind)) {
            return NONE;
        }
        Order order = orderOf(kind);
        int cheap = order.upTo(c);
        told.clear();
        if (cheap > 0) {
            told.add(order.costAt(cheap));
        }
        return cheap;
    }

    public int rank(int kind) {
        int fault = Codes.fault(text);
        long code = Codes.of(text);
        text.clear();
        if (fault != SOUND) {
            return -1 - fault;
        }
        if (!isKind(kind)) {
            return NO_SUCH_KIND;
        }
        Order order = orderOf(kind);
        int place = order.placeOf(code);
        if (place == 0) {
            return NO_SUCH_ROW;
        }
        told.only(order.costAt(place));
        return place;
    }

    public int alike(int kind, int k) {
        if (!isKind(kind) || !isPlace(k, PLACE_MOST)) {
            return NONE;
        }
        Order order = orderOf(kind);
        if (k > order.size()) {
            return FEWER;
        }
        int first = order.firstAlike(k);
        int last = order.upTo(order.costAt(k));
        told.only(first);
        told.add(last);
        return last - first + 1;
    }

    public int surely(int kind) {
        if (!isKind(kind)) {
            return NONE;
        }
        Order order = orderOf(kind);
        if (order.size() == 0) {
            return FEWER;
        }
        int places = order.sharedPlaces(order.upTo(order.costAt(1)));
        told.only(Integer.bitCount(places));
        return places;
    }

    public int having(int kind, int i, int v, int is) {
        if (!isKind(kind) || i < 0 || i >= ROW_MOST || v < 0 || v >= LETTERS || is < 0 || is > 1) {
            return NONE;
        }
        Order order = orderOf(kind);
        int first = 0;
        int such = 0;
        for (int k = 1; k <= order.size(); k++) {
            if ((Codes.numberAt(order.codeAt(k), i) == v) == (is == 1)) {
                first = such == 0 ? k : first;
                such++;
            }
        }
        told.clear();
        if (such > 0) {
            told.add(first);
            told.add(order.costAt(first));
        }
        return such;
    }

    public int differ(int kind, int a, int b) {
        if (!isKind(kind) || !isPlace(a, PLACE_MOST) || !isPlace(b, PLACE_MOST)) {
            return NONE;
        }
        Order order = orderOf(kind);
        if (a > order.size() || b > order.size()) {
            return FEWER;
        }
        int places = Codes.differences(order.codeAt(a), order.codeAt(b));
        told.clear();
        if (places != 0) {
            told.add(Codes.firstOf(places));
        }
        return Integer.bitCount(places);
    }

    public int gap(int kind, int k) {
        if (!isKind(kind) || !isPlace(k, PLACE_MOST - 1)) {
            return NONE;
        }
        Order order = orderOf(kind);
        if (k + 1 > order.size()) {
            return FEWER;
        }
        told.only((long) order.costAt(k + 1) - order.costAt(k));
        return 0;
    }

    // ---- cursors

    public int opens(int c, int kind) {
        if (c < 0 || c >= CURSORS || !isKind(kind)) {
            return NONE;
        }
        cursors[c].open(kind);
        return orderOf(kind).size();
    }

    public int goes(int c) {
        if (c < 0 || c >= CURSORS) {
            return NONE;
        }
        Cursor cursor = cursors[c];
        if (!cursor.isUsable()) {
            return cursor.refusal();
        }
        Order order = orderOf(cursor.kind());
        if (cursor.passed() >= order.size()) {
            return FEWER;
        }
        cursor.move(1, order.size());
        return tellOne(order, cursor.passed());
    }

    public int skips(int c, int n) {
        if (c < 0 || c >= CURSORS || n < 0 || n > PLACE_MOST) {
            return NONE;
        }
        Cursor cursor = cursors[c];
        if (!cursor.isUsable()) {
            return cursor.refusal();
        }
        int size = orderOf(cursor.kind()).size();
        cursor.move(n, size);
        return size - cursor.passed();
    }

    // ---- which one it was

    public int heard(int what, int v) {
        return clues.add(what, v) ? clues.size() : NONE;
    }

    public int forget() {
        int were = clues.size();
        clues.clear();
        return were;
    }

    public int fits(int kind) {
        if (!isKind(kind)) {
            return NONE;
        }
        Order order = orderOf(kind);
        int first = 0;
        int fitting = 0;
        for (int k = 1; k <= order.size(); k++) {
            if (clues.allow(order.costAt(k), order.codeAt(k))) {
                first = fitting == 0 ? k : first;
                fitting++;
            }
        }
        told.clear();
        if (fitting > 0) {
            told.add(first);
        }
        return fitting;
    }

    public int asks(int kind) {
        if (!isKind(kind)) {
            return NONE;
        }
        int fitting = clues.tally(orderOf(kind));
        if (fitting == 0) {
            return FEWER;
        }
        int question = clues.bestQuestion(fitting);
        told.only(clues.mostLeft(question / 100, question % 100, fitting));
        return question;
    }

    // ---- chances, a game

    public int odds(int kind, int c, int n) {
        if (!isKind(kind) || n < 1 || n > DRAWS_MOST) {
            return NONE;
        }
        Order order = orderOf(kind);
        if (order.size() == 0) {
            return FEWER;
        }
        int dear = order.size() - order.upTo(c);
        long all = 1;
        long bad = 1;
        for (int i = 0; i < n; i++) {
            all *= order.size();
            bad *= dear;
        }
        tellFraction(all - bad, all);
        return 0;
    }

    public int duel(int x) {
        if (x < 0 || x >= LISTS) {
            return NONE;
        }
        int last = state.sizeOf(x) - 1;
        told.clear();
        if (last < 0) {
            return 1000;
        }
        int byFirst = state.numberAt(x, 0) - lead(state, x, 1, last);
        int byLast = state.numberAt(x, last) - lead(state, x, 0, last - 1);
        told.add(byFirst >= byLast ? 0 : 1);
        return 1000 + Math.max(byFirst, byLast);
    }

    // ---- rules, changes

    public int law() {
        int fault = draft.read(text);
        text.clear();
        if (fault != SOUND) {
            return LAW_FAULT - fault;
        }
        Order order = orderOf(CHOICES);
        long firstKey = Long.MAX_VALUE;
        int place = 0;
        for (int k = 1; k <= order.size(); k++) {
            long code = order.codeAt(k);
            long key = Order.keyOf(finder.costOfChoice(state, draft, code), code);
            if (key < firstKey) {
                firstKey = key;
                place = k;
            }
        }
        told.only(Order.costOf(firstKey));
        told.add(order.costAt(place));
        return place;
    }

    public int years(int seed, int n) {
        if (n < 1 || n > YEARS_MOST) {
            return NONE;
        }
        drawn = seed;
        for (int i = 0; i < n; i++) {
            liveYear();
        }
        told.only(orderOf(TREES).size());
        told.add(orderOf(ROUTES).size());
        told.add(orderOf(PAIRINGS).costAt(1));
        return orderOf(CHOICES).size();
    }

    // ---- kept

    public boolean keep(int i) {
        if (i < 0 || i >= KEEPS) {
            return false;
        }
        kept[i].copyFrom(state);
        isKept[i] = true;
        return true;
    }

    public boolean again(int i) {
        if (i < 0 || i >= KEEPS || !isKept[i]) {
            return false;
        }
        state.copyFrom(kept[i]);
        history.clear();
        changed();
        return true;
    }

    public int count(int what) {
        switch (what) {
            case 0: return state.allNumbers();
            case 1: return state.edges();
            case 2: return state.size();
            case 3: return state.picked();
            case 4: return state.endsAsNumber();
            case 5: return clues.size();
            case 6: return history.size();
            case 7: return told.size();
            case 8: return text.length();
            case 9: return state.joinedNodes();
            default: return NONE;
        }
    }

    public long row(int i) throws NoSuchElementException {
        if (i < 0 || i >= told.size()) {
            throw new NoSuchElementException("no such number of the row");
        }
        return told.at(i);
    }

    // ---- helpers of the calls

    private static boolean isKind(int kind) {
        return kind >= 0 && kind < KINDS;
    }

    private static boolean isPlace(int k, int most) {
        return k >= 1 && k <= most;
    }

    /** What a change of the state answers; below 0 it was refused, and the state is as before. */
    private int settled(int answer) {
        if (answer >= 0) {
            history.add(before);
            changed();
        }
        return answer;
    }

    private void changed() {
        for (int kind = 0; kind < KINDS; kind++) {
            orders[kind].outdate();
        }
        for (int c = 0; c < CURSORS; c++) {
            cursors[c].outdate();
        }
    }

    /** The order of a kind that isKind() has let pass; found anew only behind a change. */
    private Order orderOf(int kind) {
        Order order = orders[kind];
        if (!order.isKnown()) {
            order.clear();
            finder.find(kind, state, ruling, order);
            order.sort();
        }
        return order;
    }

    private int tellOne(Order order, int place) {
        long code = order.codeAt(place);
        int length = Codes.lengthOf(code);
        told.only(order.costAt(place));
        for (int i = 0; i < length; i++) {
            told.add(Codes.numberAt(code, i));
        }
        return length;
    }

    private void tellFraction(long upper, long lower) {
        long a = lower;
        long b = upper;
        // Euclid's rests shrink so fast that 100 rounds are more than longs need.
        for (int i = 0; i < 100 && b != 0; i++) {
            long rest = a % b;
            a = b;
            b = rest;
        }
        long divisor = a == 0 ? 1 : a;
        told.only(upper / divisor);
        told.add(lower / divisor);
    }

    /** How much more he has at the end who is to take from the numbers at places from .. to. */
    private static int lead(State state, int x, int from, int to) {
        if (from > to) {
            return 0;
        }
        int byFirst = state.numberAt(x, from) - lead(state, x, from + 1, to);
        int byLast = state.numberAt(x, to) - lead(state, x, from, to - 1);
        return Math.max(byFirst, byLast);
    }

    private void liveYear() {
        switch (draw(4)) {
            case 0: {
                int x = draw(4);
                puts(x, draw(100));
                break;
            }
            case 1: {
                int x = draw(4);
                takes(x, draw(6));
                break;
            }
            case 2: {
                int one = draw(7);
                int other = draw(7);
                joins(one, other, draw(99) + 1);
                break;
            }
            default: {
                int person = draw(5);
                int job = draw(5);
                costs(person, job, draw(100));
                break;
            }
        }
    }

    private int draw(int n) {
        drawn = drawn * 1103515245 + 12345;
        return n < 1 ? 0 : (drawn >>> 16) % n;
    }

    /** THE TEXT: at most 80 signs 0 .. 255. */
    private static final class Text {
        private final char[] signs = new char[TEXT_MOST];
        private int length;

        int length() {
            return length;
        }

        /** The sign at a place; 0, which no text of the document knows, where there is none. */
        char at(int p) {
            return p >= 0 && p < length ? signs[p] : (char) 0;
        }

        boolean append(int v) {
            if (length + 4 > TEXT_MOST) {
                return false;
            }
            for (int shift = 24; shift >= 0; shift -= 8) {
                signs[length] = (char) (v >>> shift & 255);
                length++;
            }
            return true;
        }

        boolean cut(int n) {
            if (n < 0 || n > length) {
                return false;
            }
            length = n;
            return true;
        }

        void clear() {
            length = 0;
        }

        boolean hasDigit(int p) {
            return at(p) >= '0' && at(p) <= '9';
        }

        int digit(int p) {
            return at(p) - '0';
        }

        int twoDigits(int p) {
            return 10 * digit(p) + digit(p + 1);
        }

        int node(int p) {
            return at(p) - 'a';
        }

        /** How many numbers of a LIST were found, or -1 - p of the sign that can't stand at p. */
        int numbersInto(int[] found) {
            if (length == 0) {
                return 0;
            }
            int p = 0;
            for (int n = 0; n < found.length; n++) {
                if (!hasDigit(p)) {
                    return -1 - p;
                }
                found[n] = digit(p);
                p++;
                if (hasDigit(p)) {
                    found[n] = 10 * found[n] + digit(p);
                    p++;
                }
                if (p == length) {
                    return n + 1;
                }
                if (at(p) != ',') {
                    return -1 - p;
                }
                p++;
            }
            return -1 - p;
        }
    }

    /** The ROW. */
    private static final class Told {
        private final long[] numbers = new long[ROW_MOST];
        private int size;

        int size() {
            return size;
        }

        long at(int i) {
            return i >= 0 && i < size ? numbers[i] : 0;
        }

        void clear() {
            size = 0;
        }

        void add(long v) {
            if (size < ROW_MOST) {
                numbers[size] = v;
                size++;
            }
        }

        void only(long v) {
            clear();
            add(v);
        }
    }

    /** What undo() brings back: LISTS, EDGES, TABLE, SIZE, ENDS, PICKED. */
    private static final class State {
        private final int[] sizes = new int[LISTS];
        private final int[] numbers = new int[LISTS * LIST_MOST];
        // By lesser node times NODES and the other one; 0 where there is no edge.
        private final int[] weights = new int[NODES * NODES];
        private final int[] table = new int[PEOPLE * PEOPLE];
        private int size;
        private int picked;
        private int firstEnd;
        private int secondEnd = 1;

        void copyFrom(State other) {
            System.arraycopy(other.sizes, 0, sizes, 0, LISTS);
            System.arraycopy(other.numbers, 0, numbers, 0, LISTS * LIST_MOST);
            System.arraycopy(other.weights, 0, weights, 0, NODES * NODES);
            System.arraycopy(other.table, 0, table, 0, PEOPLE * PEOPLE);
            size = other.size;
            picked = other.picked;
            firstEnd = other.firstEnd;
            secondEnd = other.secondEnd;
        }

        int size() {
            return size;
        }

        int picked() {
            return picked;
        }

        int firstEnd() {
            return firstEnd;
        }

        int secondEnd() {
            return secondEnd;
        }

        int endsAsNumber() {
            return 10 * firstEnd + secondEnd;
        }

        int sizeOf(int x) {
            return isBelow(x, LISTS) ? sizes[x] : 0;
        }

        int allNumbers() {
            int all = 0;
            for (int x = 0; x < LISTS; x++) {
                all += sizes[x];
            }
            return all;
        }

        /** The number at a place of a list; NONE, if there is none such. */
        int numberAt(int x, int place) {
            return isBelow(place, sizeOf(x)) ? numbers[x * LIST_MOST + place] : NONE;
        }

        int setList(int x, int[] found, int n) {
            if (!isBelow(x, LISTS) || n > found.length) {
                return NONE;
            }
            sizes[x] = 0;
            for (int i = 0; i < n; i++) {
                putNumber(x, found[i]);
            }
            return n;
        }

        int putNumber(int x, int v) {
            if (!isBelow(x, LISTS) || !isBelow(v, VALUE_MOST + 1)) {
                return NONE;
            }
            if (sizes[x] >= LIST_MOST) {
                return -2;
            }
            int start = x * LIST_MOST;
            int place = sizes[x];
            while (place > 0 && numbers[start + place - 1] > v) {
                numbers[start + place] = numbers[start + place - 1];
                place--;
            }
            numbers[start + place] = v;
            sizes[x]++;
            return place;
        }

        int takeNumber(int x, int place) {
            int taken = numberAt(x, place);
            if (taken < 0) {
                return NONE;
            }
            int start = x * LIST_MOST;
            for (int i = place + 1; i < sizes[x]; i++) {
                numbers[start + i - 1] = numbers[start + i];
            }
            sizes[x]--;
            return taken;
        }

        /** The weight of the edge between two nodes; 0 where there is none. */
        int weight(int one, int other) {
            return areTwoNodes(one, other) ? weights[pairOf(one, other)] : 0;
        }

        int edges() {
            int all = 0;
            for (int pair = 0; pair < NODES * NODES; pair++) {
                all += weights[pair] > 0 ? 1 : 0;
            }
            return all;
        }

        /** Lesser node times NODES and the other node of edge i; NONE, if there is none such. */
        int pairOfEdge(int i) {
            int ahead = 0;
            for (int pair = 0; pair < NODES * NODES; pair++) {
                if (weights[pair] > 0) {
                    if (ahead == i) {
                        return pair;
                    }
                    ahead++;
                }
            }
            return NONE;
        }

        int joinedNodes() {
            int nodes = 0;
            for (int pair = 0; pair < NODES * NODES; pair++) {
                if (weights[pair] > 0) {
                    nodes |= 1 << pair / NODES | 1 << pair % NODES;
                }
            }
            return nodes;
        }

        int joinNodes(int one, int other, int w) {
            if (!areTwoNodes(one, other) || !isBelow(w, VALUE_MOST + 1)) {
                return NONE;
            }
            int pair = pairOf(one, other);
            boolean isThere = weights[pair] > 0;
            if (w == 0 && !isThere) {
                return -2;
            }
            if (!isThere && edges() >= EDGE_MOST) {
                return -3;
            }
            weights[pair] = w;
            return edges();
        }

        /** Gives all edges weights by n entries of a sheet, and 1 behind them: their sum. */
        int weigh(int kind, int n, int f, int step) {
            int sum = 0;
            int i = 0;
            for (int pair = 0; pair < NODES * NODES; pair++) {
                if (weights[pair] > 0) {
                    weights[pair] = i < n ? entry(kind, f + i * step) : 1;
                    sum += weights[pair];
                    i++;
                }
            }
            return sum;
        }

        int setCost(int person, int job, int v) {
            if (!isBelow(person, PEOPLE) || !isBelow(job, PEOPLE) || !isBelow(v, VALUE_MOST + 1)) {
                return NONE;
            }
            int was = table[person * PEOPLE + job];
            table[person * PEOPLE + job] = v;
            return was;
        }

        int costAt(int person, int job) {
            return isBelow(person, PEOPLE) && isBelow(job, PEOPLE) ? table[person * PEOPLE + job] : 0;
        }

        int setWhat(int what, int v) {
            boolean isSize = what == 0;
            if (!isBelow(what, 2) || !isBelow(v, isSize ? PEOPLE + 1 : LISTS)) {
                return NONE;
            }
            int was = isSize ? size : picked;
            if (was == v) {
                return -2;
            }
            if (isSize) {
                size = v;
            } else {
                picked = v;
            }
            return 10 + was;
        }

        int setEnds(int one, int other) {
            if (!areTwoNodes(one, other)) {
                return NONE;
            }
            int were = endsAsNumber();
            firstEnd = one;
            secondEnd = other;
            return were;
        }

        private static boolean isBelow(int v, int bound) {
            return v >= 0 && v < bound;
        }

        private static boolean areTwoNodes(int one, int other) {
            return isBelow(one, NODES) && isBelow(other, NODES) && one != other;
        }

        private static int pairOf(int one, int other) {
            return Math.min(one, other) * NODES + Math.max(one, other);
        }

        private static int entry(int kind, int v) {
            int read = v;
            if (kind == 0) {
                read = (byte) v;
            } else if (kind == 1) {
                read = (short) v;
            }
            return Math.max(1, Math.min(VALUE_MOST, read));
        }
    }

    /** The states ahead of the latest changes, the latest 10 at most. */
    private static final class History {
        private final State[] states = new State[UNDO_MOST];
        private int start;
        private int size;

        History() {
            for (int i = 0; i < UNDO_MOST; i++) {
                states[i] = new State();
            }
        }

        int size() {
            return size;
        }

        void clear() {
            size = 0;
        }

        void add(State state) {
            if (size == UNDO_MOST) {
                start = (start + 1) % UNDO_MOST;
                size--;
            }
            states[(start + size) % UNDO_MOST].copyFrom(state);
            size++;
        }

        /** Brings the latest back into a state; false if there is none. */
        boolean takeLatest(State into) {
            if (size == 0) {
                return false;
            }
            size--;
            into.copyFrom(states[(start + size) % UNDO_MOST]);
            return true;
        }
    }

    /** The ACTS of A DAY: a letter, then signs of which a form tells, place by place, the greatest. */
    private static final class Acts {
        private boolean stopped;

        boolean stopped() {
            return stopped;
        }

        /** Where the first sign is that can't stand there, or SOUND. */
        static int fault(Text text) {
            int bound = Math.min(text.length(), DAY_MOST);
            int p = 0;
            while (p < bound) {
                String form = formOf(text.at(p));
                if (form.isEmpty()) {
                    return p;
                }
                p++;
                for (int i = 0; i < form.length(); i++) {
                    if (p >= bound || !mayStand(text.at(p), form.charAt(i))) {
                        return p;
                    }
                    p++;
                }
            }
            return text.length() > DAY_MOST ? DAY_MOST : SOUND;
        }

        /** Does the acts of a sound text one by one, till one can't be: how many were done. */
        int perform(Text text, State state) {
            stopped = false;
            int done = 0;
            int p = 0;
            while (p < text.length() && !stopped) {
                if (performOne(text, p, state) < 0) {
                    stopped = true;
                } else {
                    done++;
                }
                p += 1 + formOf(text.at(p)).length();
            }
            return done;
        }

        private static int performOne(Text text, int p, State state) {
            switch (text.at(p)) {
                case 'p': return state.putNumber(text.digit(p + 1), text.twoDigits(p + 2));
                case 't': return state.takeNumber(text.digit(p + 1), text.digit(p + 2));
                case 'j': return state.joinNodes(text.node(p + 1), text.node(p + 2), text.twoDigits(p + 3));
                case 'c': return state.setCost(text.digit(p + 1), text.digit(p + 2), text.twoDigits(p + 3));
                case 'z': return state.setWhat(0, text.digit(p + 1));
                case 'k': return state.setWhat(1, text.digit(p + 1));
                case 'e': return state.setEnds(text.node(p + 1), text.node(p + 2));
                default: return NONE;
            }
        }

        private static String formOf(char letter) {
            switch (letter) {
                case 'p': return "399";
                case 't': return "39";
                case 'j': return "gg99";
                case 'c': return "4499";
                case 'z': return "9";
                case 'k': return "9";
                case 'e': return "gg";
                default: return "";
            }
        }

        private static boolean mayStand(char sign, char greatest) {
            char least = greatest == 'g' ? 'a' : '0';
            return sign >= least && sign <= greatest;
        }
    }

    /** A RULE, read once into things and operators behind what they work on. */
    private static final class Rule {
        private static final int DEEPEST = 4;
        // Steps below OPERATOR are numbers; the others are OPERATOR and the sign.
        private static final int OPERATOR = 1000;
        // Above all signs that a text can have.
        private static final int NEGATE = 256;

        private final int[] steps = new int[RULE_MOST];
        private final int[] waiting = new int[RULE_MOST];
        private final boolean[] compared = new boolean[DEEPEST + 1];
        private final int[] values = new int[RULE_MOST];
        private int length;
        private int waitingSize;
        private int depth;
        private int top;

        Rule() {
            steps[0] = OPERATOR + 's';
            length = 1;
        }

        /** Where the first sign is that can't stand there, or SOUND; then this is the rule of the text. */
        int read(Text text) {
            length = 0;
            waitingSize = 0;
            depth = 0;
            compared[0] = false;
            if (text.length() == 0) {
                addStep(OPERATOR + 's');
                return SOUND;
            }
            int bound = Math.min(text.length(), RULE_MOST);
            boolean wantsThing = true;
            int p = 0;
            while (p < bound) {
                char sign = text.at(p);
                if (wantsThing) {
                    int taken = startThing(text, p, bound);
                    if (taken == 0) {
                        return p;
                    }
                    wantsThing = sign == '-' || sign == '(';
                    p += taken;
                } else {
                    if (!goOn(sign)) {
                        return p;
                    }
                    wantsThing = sign != ')';
                    p++;
                }
            }
            if (wantsThing || depth > 0 || text.length() > RULE_MOST) {
                return bound;
            }
            release(0);
            return SOUND;
        }

        /** How many signs of a thing, or of what stands ahead of it, were taken at p; 0: it can't stand there. */
        private int startThing(Text text, int p, int bound) {
            char sign = text.at(p);
            if (text.hasDigit(p)) {
                return readNumber(text, p, bound);
            }
            if (sign == '-') {
                hold(NEGATE);
                return 1;
            }
            if (sign == '(') {
                return openBracket() ? 1 : 0;
            }
            if (!isLetter(sign)) {
                return 0;
            }
            addStep(OPERATOR + sign);
            return 1;
        }

        private int readNumber(Text text, int p, int bound) {
            int number = 0;
            int digits = 0;
            while (digits < 3 && p + digits < bound && text.hasDigit(p + digits)) {
                number = 10 * number + text.digit(p + digits);
                digits++;
            }
            addStep(number);
            return digits;
        }

        private boolean openBracket() {
            if (depth >= DEEPEST) {
                return false;
            }
            hold('(');
            depth++;
            compared[depth] = false;
            return true;
        }

        /** Takes a sign that stands behind a thing; false if it can't. */
        private boolean goOn(char sign) {
            if (sign == ')') {
                return closeBracket();
            }
            int binding = bindingOf(sign);
            if (binding == 0) {
                return false;
            }
            if (binding == 1) {
                if (compared[depth]) {
                    return false;
                }
                compared[depth] = true;
            }
            release(binding);
            hold(sign);
            return true;
        }

        private boolean closeBracket() {
            if (depth == 0) {
                return false;
            }
            release(1);
            waitingSize--;
            depth--;
            return true;
        }

        /** Operators of the innermost bracket that bind as much or more have what they work on. */
        private void release(int binding) {
            while (waitingSize > 0 && waiting[waitingSize - 1] != '('
                    && bindingOf(waiting[waitingSize - 1]) >= binding) {
                waitingSize--;
                addStep(OPERATOR + waiting[waitingSize]);
            }
        }

        private void hold(int sign) {
            if (waitingSize < RULE_MOST) {
                waiting[waitingSize] = sign;
                waitingSize++;
            }
        }

        private void addStep(int step) {
            if (length < RULE_MOST) {
                steps[length] = step;
                length++;
            }
        }

        private static boolean isLetter(int sign) {
            switch (sign) {
                case 's': case 'm': case 'l': case 'f': case 'e': case 'p': case 'n': return true;
                default: return false;
            }
        }

        /** How much an operator binds; 0: it is none. */
        private static int bindingOf(int sign) {
            switch (sign) {
                case '<': case '>': case '=': return 1;
                case '+': case '-': return 2;
                case '*': case '/': return 3;
                case NEGATE: return 4;
                default: return 0;
            }
        }

        /** What a choice of the first n numbers costs. */
        int costOf(int[] chosen, int n) {
            int many = Math.min(n, chosen.length);
            top = 0;
            for (int i = 0; i < length; i++) {
                int step = steps[i];
                int sign = step - OPERATOR;
                if (step < OPERATOR) {
                    push(step);
                } else if (isLetter(sign)) {
                    push(valueOf(sign, chosen, many));
                } else if (sign == NEGATE) {
                    push(-pop());
                } else {
                    int right = pop();
                    int left = pop();
                    push(joined(sign, left, right));
                }
            }
            return pop();
        }

        private void push(int v) {
            if (top < RULE_MOST) {
                values[top] = v;
                top++;
            }
        }

        private int pop() {
            if (top == 0) {
                return 0;
            }
            top--;
            return values[top];
        }

        private static int joined(int sign, int left, int right) {
            switch (sign) {
                case '<': return left < right ? 1 : 0;
                case '>': return left > right ? 1 : 0;
                case '=': return left == right ? 1 : 0;
                case '+': return left + right;
                case '-': return left - right;
                case '*': return left * right;
                default: return right == 0 ? 0 : left / right;
            }
        }

        private static int valueOf(int letter, int[] chosen, int many) {
            if (letter == 'n') {
                return many;
            }
            if (many == 0) {
                return letter == 'p' ? 1 : 0;
            }
            if (letter == 'e') {
                return chosen[many - 1];
            }
            int value = chosen[0];
            for (int i = 1; i < many; i++) {
                value = gathered(letter, value, chosen[i]);
            }
            return value;
        }

        private static int gathered(int letter, int value, int next) {
            switch (letter) {
                case 's': return value + next;
                case 'p': return value * next;
                case 'm': return value >= next ? value : next;
                case 'l': return value <= next ? value : next;
                default: return value;
            }
        }
    }

    /**
     * Rows as numbers: four bits a place, the first place highest, 0 for no number and v + 1 for v.
     * So rows compare as these numbers do, and one that ends first is ahead.
     */
    private static final class Codes {
        private static final int FIRST_SHIFT = 4 * (ROW_MOST - 1);

        static long with(long code, int place, int v) {
            return code | (long) (v + 1) << FIRST_SHIFT - 4 * place;
        }

        /** The number at a place 0 .. 7 of a row; NONE, if it has none there. */
        static int numberAt(long code, int place) {
            return (int) (code >>> FIRST_SHIFT - 4 * place & 15) - 1;
        }

        static int lengthOf(long code) {
            int length = 0;
            while (length < ROW_MOST && numberAt(code, length) >= 0) {
                length++;
            }
            return length;
        }

        /** The places at which two rows differ, as bits. */
        static int differences(long one, long other) {
            int places = 0;
            for (int i = 0; i < ROW_MOST; i++) {
                if (numberAt(one, i) != numberAt(other, i)) {
                    places |= 1 << i;
                }
            }
            return places;
        }

        /** The least of places told as bits. */
        static int firstOf(int places) {
            int first = 0;
            while (first < ROW_MOST && (places & 1 << first) == 0) {
                first++;
            }
            return first;
        }

        /** The numbers of a row, as bits. */
        static int numbersOf(long code) {
            int numbers = 0;
            int length = lengthOf(code);
            for (int i = 0; i < length; i++) {
                numbers |= 1 << numberAt(code, i);
            }
            return numbers;
        }

        static int fault(Text text) {
            for (int p = 0; p < text.length(); p++) {
                if (p >= ROW_MOST || text.at(p) < 'a' || text.at(p) >= 'a' + LETTERS) {
                    return p;
                }
            }
            return SOUND;
        }

        /** The row of a text without a fault. */
        static long of(Text text) {
            long code = 0;
            int length = Math.min(text.length(), ROW_MOST);
            for (int p = 0; p < length; p++) {
                code = with(code, p, text.at(p) - 'a');
            }
            return code;
        }
    }

    /** All of a kind by cost and row: the cost in the upper half of a key, the row's code in the lower. */
    private static final class Order {
        private final long[] keys;
        private int size;
        private boolean known;

        Order(int most) {
            keys = new long[Math.max(0, most)];
        }

        static long keyOf(int cost, long code) {
            return (long) cost << 32 | code;
        }

        static int costOf(long key) {
            return (int) (key >> 32);
        }

        boolean isKnown() {
            return known;
        }

        void outdate() {
            known = false;
        }

        void clear() {
            size = 0;
        }

        int size() {
            return size;
        }

        void add(int cost, long code) {
            if (size < keys.length) {
                keys[size] = keyOf(cost, code);
                size++;
            }
        }

        void sort() {
            for (int s = 0; s < SORT_STEPS.length; s++) {
                int step = SORT_STEPS[s];
                for (int i = step; i < size; i++) {
                    long key = keys[i];
                    int hole = i;
                    while (hole >= step && keys[hole - step] > key) {
                        keys[hole] = keys[hole - step];
                        hole -= step;
                    }
                    keys[hole] = key;
                }
            }
            known = true;
        }

        int costAt(int place) {
            return costOf(keyAt(place));
        }

        long codeAt(int place) {
            return keyAt(place) & 0xffffffffL;
        }

        private long keyAt(int place) {
            return place >= 1 && place <= size ? keys[place - 1] : 0;
        }

        /** How many cost so much or less. */
        int upTo(int cost) {
            int n = 0;
            while (n < size && costOf(keys[n]) <= cost) {
                n++;
            }
            return n;
        }

        int firstAlike(int place) {
            int first = place;
            while (first > 1 && costAt(first - 1) == costAt(place)) {
                first--;
            }
            return first;
        }

        /** The place of a row; 0, if there is none such. */
        int placeOf(long code) {
            for (int place = 1; place <= size; place++) {
                if (codeAt(place) == code) {
                    return place;
                }
            }
            return 0;
        }

        /** The places, as bits, at which the rows of the first n all have the same number. */
        int sharedPlaces(int n) {
            long code = codeAt(1);
            int places = (1 << Codes.lengthOf(code)) - 1;
            for (int place = 2; place <= n; place++) {
                places &= ~Codes.differences(code, codeAt(place));
            }
            return places;
        }
    }

    /** Finds all of a kind, each once, in no order that counts. */
    private static final class Finder {
        private final int[] chosen = new int[LISTS];
        private final int[] low = new int[EDGE_MOST];
        private final int[] high = new int[EDGE_MOST];
        private final int[] weight = new int[EDGE_MOST];
        private int edges;
        private int treeSize;
        private State state;
        private Rule ruling;
        private Order into;

        void find(int kind, State from, Rule rule, Order order) {
            state = from;
            ruling = rule;
            into = order;
            switch (kind) {
                case CHOICES:
                    findChoices(0, 0, 0);
                    break;
                case TREES:
                    findTrees();
                    break;
                case PAIRINGS:
                    findPairings(0, 0, 0, 0);
                    break;
                case SUBSETS:
                    findSubsets(0, 0, 0, 0);
                    break;
                default:
                    findRoutes(from.firstEnd(), 0, 0, 0, 0);
                    break;
            }
        }

        int costOfChoice(State from, Rule rule, long code) {
            int n = 0;
            for (int x = 0; x < LISTS; x++) {
                if (from.sizeOf(x) > 0) {
                    chosen[n] = from.numberAt(x, Codes.numberAt(code, n));
                    n++;
                }
            }
            return rule.costOf(chosen, n);
        }

        /** Goes on at list x behind n numbers that are chosen. */
        private void findChoices(int x, int n, long code) {
            if (x >= LISTS) {
                into.add(ruling.costOf(chosen, n), code);
                return;
            }
            int size = state.sizeOf(x);
            if (size == 0) {
                findChoices(x + 1, n, code);
            }
            for (int place = 0; place < size && n < LISTS; place++) {
                chosen[n] = state.numberAt(x, place);
                findChoices(x + 1, n + 1, Codes.with(code, n, place));
            }
        }

        private void findTrees() {
            edges = 0;
            for (int one = 0; one < NODES; one++) {
                for (int other = one + 1; other < NODES; other++) {
                    int w = state.weight(one, other);
                    if (w > 0 && edges < EDGE_MOST) {
                        low[edges] = one;
                        high[edges] = other;
                        weight[edges] = w;
                        edges++;
                    }
                }
            }
            treeSize = Math.max(0, Integer.bitCount(state.joinedNodes()) - 1);
            int groups = 0;
            for (int node = 0; node < NODES; node++) {
                groups = regrouped(groups, node, node);
            }
            growTree(0, 0, 0, 0, groups);
        }

        /** Takes edge i, if it joins two groups of nodes, or does not; n were taken. */
        private void growTree(int i, int n, int cost, long code, int groups) {
            if (n == treeSize) {
                into.add(cost, code);
                return;
            }
            if (i >= edges || edges - i < treeSize - n) {
                return;
            }
            int one = groupOf(groups, low[i]);
            int other = groupOf(groups, high[i]);
            if (one != other) {
                growTree(i + 1, n + 1, cost + weight[i], Codes.with(code, n, i), merged(groups, one, other));
            }
            growTree(i + 1, n, cost, code, groups);
        }

        // Groups of nodes: three bits a node, the number of the group it is in.
        private static int groupOf(int groups, int node) {
            return groups >>> 3 * node & 7;
        }

        private static int regrouped(int groups, int node, int group) {
            return groups & ~(7 << 3 * node) | group << 3 * node;
        }

        private static int merged(int groups, int one, int other) {
            int after = groups;
            for (int node = 0; node < NODES; node++) {
                if (groupOf(groups, node) == other) {
                    after = regrouped(after, node, one);
                }
            }
            return after;
        }

        private void findPairings(int person, int cost, long code, int jobs) {
            if (person >= state.size()) {
                into.add(cost, code);
                return;
            }
            for (int job = 0; job < state.size(); job++) {
                if ((jobs & 1 << job) == 0) {
                    findPairings(person + 1, cost + state.costAt(person, job),
                            Codes.with(code, person, job), jobs | 1 << job);
                }
            }
        }

        private void findSubsets(int from, int n, int cost, long code) {
            into.add(cost, code);
            int x = state.picked();
            for (int place = from; place < state.sizeOf(x); place++) {
                findSubsets(place + 1, n + 1, cost + state.numberAt(x, place), Codes.with(code, n, place));
            }
        }

        /** Comes to a node behind n others, whose bits are in passed. */
        private void findRoutes(int node, int n, int cost, long code, int passed) {
            long longer = Codes.with(code, n, node);
            if (node == state.secondEnd()) {
                into.add(cost, longer);
                return;
            }
            int beenAt = passed | 1 << node;
            for (int next = 0; next < NODES && n + 1 < NODES; next++) {
                int w = state.weight(node, next);
                if (w > 0 && (beenAt & 1 << next) == 0) {
                    findRoutes(next, n + 1, cost + w, longer, beenAt);
                }
            }
        }
    }

    /** A CURSOR on a kind, behind as many as it has passed. */
    private static final class Cursor {
        private int kind;
        private int passed;
        private boolean opened;
        private boolean stale;

        void open(int newKind) {
            kind = newKind;
            passed = 0;
            opened = true;
            stale = false;
        }

        void outdate() {
            stale = true;
        }

        boolean isUsable() {
            return opened && !stale;
        }

        int refusal() {
            return opened ? STALE : NEVER_OPENED;
        }

        int kind() {
            return kind;
        }

        int passed() {
            return passed;
        }

        void move(int n, int size) {
            passed = Math.min(passed + n, size);
        }
    }

    /** What was heard of one, and what to ask next. */
    private static final class Clues {
        private static final int COST = 0;
        private static final int FIRST = 1;
        private static final int LAST = 2;
        private static final int LENGTH = 3;
        private static final int HAS = 4;
        private static final int WHATS = 5;

        private final int[] whats = new int[CLUE_MOST];
        private final int[] values = new int[CLUE_MOST];
        // By what and v: of how many that fit it is so.
        private final int[][] tallies = new int[WHATS][31];
        private int size;

        int size() {
            return size;
        }

        void clear() {
            size = 0;
        }

        boolean add(int what, int v) {
            if (what < 0 || what >= WHATS || v < 0 || v > CLUE_GREATEST[what] || size >= CLUE_MOST) {
                return false;
            }
            whats[size] = what;
            values[size] = v;
            size++;
            return true;
        }

        /** Whether all that was heard is so of one. */
        boolean allow(int cost, long code) {
            for (int i = 0; i < size; i++) {
                if (!isSo(whats[i], values[i], cost, code)) {
                    return false;
                }
            }
            return true;
        }

        private static boolean isSo(int what, int v, int cost, long code) {
            switch (what) {
                case COST: return cost >= 10 * v;
                case FIRST: return Codes.numberAt(code, 0) == v;
                case LAST: return lastOf(code) == v;
                case LENGTH: return Codes.lengthOf(code) == v;
                default: return (Codes.numbersOf(code) & 1 << v) != 0;
            }
        }

        private static int lastOf(long code) {
            int length = Codes.lengthOf(code);
            return length == 0 ? NONE : Codes.numberAt(code, length - 1);
        }

        /** Counts, for every question, of how many that fit it is so: how many fit. */
        int tally(Order order) {
            for (int what = 0; what < WHATS; what++) {
                for (int v = 0; v < tallies[what].length; v++) {
                    tallies[what][v] = 0;
                }
            }
            int fitting = 0;
            for (int k = 1; k <= order.size(); k++) {
                if (allow(order.costAt(k), order.codeAt(k))) {
                    tallyOne(order.costAt(k), order.codeAt(k));
                    fitting++;
                }
            }
            // A cost of so many tens or more is one of fewer tens or more, too.
            for (int v = CLUE_GREATEST[COST] - 1; v >= 0; v--) {
                tallies[COST][v] += tallies[COST][v + 1];
            }
            return fitting;
        }

        private void tallyOne(int cost, long code) {
            if (cost >= 0) {
                addTo(COST, Math.min(cost / 10, CLUE_GREATEST[COST]));
            }
            addTo(FIRST, Codes.numberAt(code, 0));
            addTo(LAST, lastOf(code));
            addTo(LENGTH, Codes.lengthOf(code));
            int numbers = Codes.numbersOf(code);
            for (int v = 0; v <= CLUE_GREATEST[HAS]; v++) {
                if ((numbers & 1 << v) != 0) {
                    addTo(HAS, v);
                }
            }
        }

        private void addTo(int what, int v) {
            if (v >= 0 && v < tallies[what].length) {
                tallies[what][v]++;
            }
        }

        /** 100 times what and v of the question that leaves the fewest at most; behind tally(). */
        int bestQuestion(int fitting) {
            int question = 0;
            int fewest = fitting + 1;
            for (int what = 0; what < WHATS; what++) {
                for (int v = 0; v <= CLUE_GREATEST[what]; v++) {
                    int left = mostLeft(what, v, fitting);
                    if (left < fewest) {
                        fewest = left;
                        question = 100 * what + v;
                    }
                }
            }
            return question;
        }

        int mostLeft(int what, int v, int fitting) {
            if (what < 0 || what >= WHATS || v < 0 || v >= tallies[what].length) {
                return fitting;
            }
            return Math.max(tallies[what][v], fitting - tallies[what][v]);
        }
    }
}
