/**
 * Spaces of designs: choices, rules, terms, limits, and what can be asked of the designs.
 * The document's promises stand in DOC.md; the face's methods come in its order.
 */
public final class DesignSpaces {
    public static final int NONE = -1;

    private static final int FEWEST_VALUES = 2;
    private static final int MOST_VALUES = 6;
    private static final int MOST_CHOICES = 8;
    private static final int MOST_DESIGNS = 4096;
    /** Each choice has two values or more, so all shorter rows together are fewer than the whole ones. */
    private static final int MOST_ROWS = 2 * MOST_DESIGNS;
    private static final int NUMBERS = 4;
    private static final int MOST_TERMS = 100;
    private static final int MOST_WEIGHT = 1000000;
    private static final int MOST_RULES = 40;
    /** Any number may have all the terms; the rules stand behind the terms' slots. */
    private static final int TERM_SLOTS = NUMBERS * MOST_TERMS;
    private static final int MATCH_SLOTS = TERM_SLOTS + MOST_RULES;
    private static final int MOST_STEPS = 1000;
    private static final int MOST_SWEPT = 5000;
    private static final int LOWEST_31_BITS = 0x7fffffff;

    private final Shape shape;
    private final Book book;
    private final Front front;
    private final Search search;
    private final Walker walker;
    private final Sweeper sweeper;

    public DesignSpaces(int seed) {
        shape = new Shape();
        book = new Book(shape);
        front = new Front(shape, book);
        search = new Search(shape, book);
        walker = new Walker(shape, book, seed & LOWEST_31_BITS);
        sweeper = new Sweeper(shape, book);
    }

    public int choice(int values) throws IllegalArgumentException, UnsupportedOperationException {
        if (values < FEWEST_VALUES || values > MOST_VALUES) {
            throw new IllegalArgumentException("a choice has 2 to 6 values");
        }
        if (!shape.hasRoomFor(values)) {
            throw new UnsupportedOperationException("too many choices or designs");
        }
        book.splitDesigns(values);
        shape.addChoice(values);
        sweeper.beginAnew();
        front.forget();
        return shape.choices - 1;
    }

    public int term(int number, int a, int va, int b, int vb, int weight)
            throws IndexOutOfBoundsException, IllegalArgumentException, UnsupportedOperationException {
        boolean single = b == NONE;
        if (!isNumber(number) || !shape.hasValue(a, va) || !single && !shape.hasValue(b, vb)) {
            throw new IndexOutOfBoundsException("no such number, choice or value");
        }
        if (a == b || weight < -MOST_WEIGHT || weight > MOST_WEIGHT) {
            throw new IllegalArgumentException("one choice twice, or no weight");
        }
        if (book.termsTold >= MOST_TERMS) {
            throw new UnsupportedOperationException("there are 100 terms");
        }
        book.addTerm(number, a, va, b, vb, weight);
        front.forget();
        return book.termsTold;
    }

    public int rule(int a, int va, int b, int vb)
            throws IndexOutOfBoundsException, IllegalArgumentException, UnsupportedOperationException {
        if (!shape.hasValue(a, va) || !shape.hasValue(b, vb)) {
            throw new IndexOutOfBoundsException("no such choice or value");
        }
        if (a == b) {
            throw new IllegalArgumentException("one choice twice");
        }
        if (book.rulesTold >= MOST_RULES) {
            throw new UnsupportedOperationException("there are forty rules");
        }
        book.addRule(a, va, b, vb);
        front.forget();
        return book.rulesTold;
    }

    public boolean limit(int number, boolean on, int most) throws IndexOutOfBoundsException {
        if (!isNumber(number)) {
            throw new IndexOutOfBoundsException("no such number");
        }
        boolean before = book.limited[number];
        book.limited[number] = on;
        book.most[number] = most;
        front.forget();
        return before;
    }

    public int number(int design, int number) throws IndexOutOfBoundsException {
        if (!shape.hasDesign(design) || !isNumber(number)) {
            throw new IndexOutOfBoundsException("no such design or number");
        }
        return book.sumOf(design, number);
    }

    public int value(int design, int choice) throws IndexOutOfBoundsException {
        if (!shape.hasDesign(design) || !shape.hasChoice(choice)) {
            throw new IndexOutOfBoundsException("no such design or choice");
        }
        return shape.digit(design, choice);
    }

    public boolean legal(int design) throws IndexOutOfBoundsException {
        if (!shape.hasDesign(design)) {
            throw new IndexOutOfBoundsException("no such design");
        }
        return book.allows(design);
    }

    public boolean beats(int design, int other) throws IndexOutOfBoundsException, IllegalArgumentException {
        if (!shape.hasDesign(design) || !shape.hasDesign(other)) {
            throw new IndexOutOfBoundsException("no such designs");
        }
        if (!book.allows(design) || !book.allows(other)) {
            throw new IllegalArgumentException("a design is not legal");
        }
        return book.isAtMost(design, other) && !book.isAtMost(other, design);
    }

    public int undominated() {
        front.refresh();
        return front.size;
    }

    public int at(int k) throws IndexOutOfBoundsException {
        front.refresh();
        if (k < 0 || k >= front.size) {
            throw new IndexOutOfBoundsException("no such undominated design");
        }
        return front.members[k];
    }

    public int best(int number) throws IndexOutOfBoundsException {
        if (!isNumber(number)) {
            throw new IndexOutOfBoundsException("no such number");
        }
        return search.leastOf(number);
    }

    public int looked() {
        return search.rowsSeen;
    }

    public int bound(int number, int design, int set) throws IndexOutOfBoundsException {
        if (!isNumber(number) || !shape.hasDesign(design) || set < 0 || set > shape.choices) {
            throw new IndexOutOfBoundsException("no such number, design or choices");
        }
        return search.boundFor(number, design, set);
    }

    public int near(int design, int k) throws IndexOutOfBoundsException {
        if (!shape.hasDesign(design) || k < 0 || k >= shape.neighbours()) {
            throw new IndexOutOfBoundsException("no such design or near one");
        }
        return shape.neighbour(design, k);
    }

    public int slack(int s) throws IllegalArgumentException {
        if (s < 0) {
            throw new IllegalArgumentException("slack below 0");
        }
        int before = walker.leeway;
        walker.leeway = s;
        return before;
    }

    public int walk(int design, int steps)
            throws IndexOutOfBoundsException, IllegalArgumentException, IllegalStateException {
        if (!shape.hasDesign(design)) {
            throw new IndexOutOfBoundsException("no such design");
        }
        if (!book.allows(design) || steps < 1 || steps > MOST_STEPS) {
            throw new IllegalArgumentException("not legal, or not 1 to 1000 steps");
        }
        if (shape.choices == 0) {
            throw new IllegalStateException("no choices");
        }
        return walker.go(design, steps);
    }

    public int lowest() {
        return walker.cheapest;
    }

    public long matters(int choice, int number) throws IndexOutOfBoundsException {
        if (!shape.hasChoice(choice) || !isNumber(number)) {
            throw new IndexOutOfBoundsException("no such choice or number");
        }
        return book.greatestDifference(choice, number);
    }

    public int sweep(int n) throws IllegalArgumentException, IllegalStateException {
        if (n < 1 || n > MOST_SWEPT) {
            throw new IllegalArgumentException("not 1 to 5000 designs");
        }
        if (sweeper.isAtEnd()) {
            throw new IllegalStateException("the sweep is at its end");
        }
        return sweeper.goOn(n);
    }

    public int count(int what) {
        switch (what) {
            case 0: return shape.choices;
            case 1: return shape.designs;
            case 2: return book.termsTold;
            case 3: return book.rulesTold;
            case 4: return book.limitsOn();
            case 5: return walker.leeway;
            case 6: return sweeper.isAtEnd() ? NONE : sweeper.next;
            case 7: return sweeper.allowed;
            case 8: return walker.moves;
            default: return NONE;
        }
    }

    private static boolean isNumber(int number) {
        return number >= 0 && number < NUMBERS;
    }

    /** The choices, and designs as numbers whose digits are their values. */
    private static final class Shape {
        final int[] sizes = new int[MOST_CHOICES];
        /** What one value more of a choice adds to a design's number. */
        final int[] places = new int[MOST_CHOICES];
        int choices = 0;
        int designs = 1;

        boolean hasRoomFor(int values) {
            return choices < MOST_CHOICES && designs * values <= MOST_DESIGNS;
        }

        void addChoice(int values) {
            for (int c = 0; c < choices; c++) {
                places[c] *= values;
            }
            sizes[choices] = values;
            places[choices] = 1;
            choices++;
            designs *= values;
        }

        boolean hasDesign(int design) {
            return design >= 0 && design < designs;
        }

        boolean hasChoice(int choice) {
            return choice >= 0 && choice < choices;
        }

        boolean hasValue(int choice, int value) {
            return hasChoice(choice) && value >= 0 && value < sizes[choice];
        }

        int digit(int design, int choice) {
            int place = places[choice];
            int size = sizes[choice];
            return place > 0 && size > 0 ? design / place % size : 0;
        }

        int designOf(int[] values) {
            int design = 0;
            for (int c = 0; c < choices; c++) {
                design += values[c] * places[c];
            }
            return design;
        }

        int neighbours() {
            int all = 0;
            for (int c = 0; c < choices; c++) {
                all += sizes[c] - 1;
            }
            return all;
        }

        int neighbour(int design, int k) {
            int left = k;
            for (int c = 0; c < choices; c++) {
                int others = sizes[c] - 1;
                if (left < others) {
                    int own = digit(design, c);
                    int other = left < own ? left : left + 1;
                    return design + (other - own) * places[c];
                }
                left -= others;
            }
            // no caller asks behind the last one; what is answered is a design's number all the same
            return design;
        }
    }

    /** What terms and rules are about, by slot: one value of a choice, or one each of two (b is NONE for one). */
    private static final class Matches {
        final Shape shape;
        private final int[] a = new int[MATCH_SLOTS];
        private final int[] va = new int[MATCH_SLOTS];
        private final int[] b = new int[MATCH_SLOTS];
        private final int[] vb = new int[MATCH_SLOTS];

        Matches(Shape shape) {
            this.shape = shape;
        }

        void put(int slot, int choice, int value, int other, int otherValue) {
            a[slot] = choice;
            va[slot] = value;
            b[slot] = other;
            vb[slot] = otherValue;
        }

        boolean fits(int slot, int design) {
            return shape.digit(design, a[slot]) == va[slot]
                    && (b[slot] == NONE || shape.digit(design, b[slot]) == vb[slot]);
        }

        /** Whether none of its choices is among the first ones set with another value. */
        boolean isOpen(int slot, int[] row, int set) {
            int first = a[slot];
            int second = b[slot];
            return (first >= set || row[first] == va[slot])
                    && (second == NONE || second >= set || row[second] == vb[slot]);
        }

        /** Whether all its choices are among the first ones set (NONE is below any count). */
        boolean isSettled(int slot, int set) {
            return a[slot] < set && b[slot] < set;
        }
    }

    /** Terms, rules and limits, with each design's numbers kept up to date as they are told. */
    private static final class Book {
        final Shape shape;
        final Matches matches;
        /** How many terms each number has; the slots of number n's terms begin at n * MOST_TERMS. */
        private final int[] termsOf = new int[NUMBERS];
        private final int[] weights = new int[TERM_SLOTS];
        int termsTold = 0;
        int rulesTold = 0;
        final boolean[] limited = new boolean[NUMBERS];
        final int[] most = new int[NUMBERS];
        /** The four numbers of design 0, then those of design 1, and so on. */
        private final int[] sums = new int[MOST_DESIGNS * NUMBERS];
        private final boolean[] barred = new boolean[MOST_DESIGNS];

        Book(Shape shape) {
            this.shape = shape;
            matches = new Matches(shape);
        }

        /**
         * A new choice is the lowest digit, and no term or rule knows it: each design's entries are its parts', too.
         * From the last one down, so that no design's entries are written over before they are copied.
         */
        void splitDesigns(int values) {
            for (int design = shape.designs - 1; design >= 0; design--) {
                for (int v = values - 1; v >= 0; v--) {
                    copyEntries(design, design * values + v);
                }
            }
        }

        private void copyEntries(int from, int to) {
            barred[to] = barred[from];
            for (int n = 0; n < NUMBERS; n++) {
                sums[to * NUMBERS + n] = sums[from * NUMBERS + n];
            }
        }

        void addTerm(int number, int a, int va, int b, int vb, int weight) {
            int slot = number * MOST_TERMS + termsOf[number];
            matches.put(slot, a, va, b, vb);
            weights[slot] = weight;
            termsOf[number]++;
            termsTold++;
            for (int design = 0; design < shape.designs; design++) {
                if (matches.fits(slot, design)) {
                    sums[design * NUMBERS + number] += weight;
                }
            }
        }

        void addRule(int a, int va, int b, int vb) {
            int slot = TERM_SLOTS + rulesTold;
            matches.put(slot, a, va, b, vb);
            rulesTold++;
            for (int design = 0; design < shape.designs; design++) {
                if (matches.fits(slot, design)) {
                    barred[design] = true;
                }
            }
        }

        int limitsOn() {
            int on = 0;
            for (int n = 0; n < NUMBERS; n++) {
                if (limited[n]) {
                    on++;
                }
            }
            return on;
        }

        int sumOf(int design, int number) {
            return sums[design * NUMBERS + number];
        }

        /** A long, so that a slack can be added to it. */
        long costOf(int design) {
            long cost = 0;
            for (int n = 0; n < NUMBERS; n++) {
                cost += sumOf(design, n);
            }
            return cost;
        }

        boolean allows(int design) {
            if (barred[design]) {
                return false;
            }
            for (int n = 0; n < NUMBERS; n++) {
                if (limited[n] && sumOf(design, n) > most[n]) {
                    return false;
                }
            }
            return true;
        }

        /** Whether all numbers of one design are at most those of another one. */
        boolean isAtMost(int design, int other) {
            int mine = design * NUMBERS;
            int theirs = other * NUMBERS;
            for (int n = 0; n < NUMBERS; n++) {
                if (sums[mine + n] > sums[theirs + n]) {
                    return false;
                }
            }
            return true;
        }

        int boundOf(int number, int[] row, int set) {
            int sum = 0;
            int first = number * MOST_TERMS;
            int end = first + termsOf[number];
            for (int slot = first; slot < end; slot++) {
                if (matches.isOpen(slot, row, set) && (weights[slot] < 0 || matches.isSettled(slot, set))) {
                    sum += weights[slot];
                }
            }
            return sum;
        }

        boolean barsRow(int[] row, int set) {
            int end = TERM_SLOTS + rulesTold;
            for (int slot = TERM_SLOTS; slot < end; slot++) {
                if (matches.isSettled(slot, set) && matches.isOpen(slot, row, set)) {
                    return true;
                }
            }
            return false;
        }

        boolean limitsRow(int[] row, int set) {
            for (int n = 0; n < NUMBERS; n++) {
                if (limited[n] && boundOf(n, row, set) > most[n]) {
                    return true;
                }
            }
            return false;
        }

        long greatestDifference(int choice, int number) {
            long greatest = 0;
            for (int design = 0; design < shape.designs; design++) {
                if (shape.digit(design, choice) == 0) {
                    greatest = Math.max(greatest, differenceAlong(design, choice, number));
                }
            }
            return greatest;
        }

        /** Among the legal designs that have the first one's values but for the choice. */
        private long differenceAlong(int first, int choice, int number) {
            boolean any = false;
            long least = 0;
            long greatest = 0;
            for (int v = 0; v < shape.sizes[choice]; v++) {
                int design = first + v * shape.places[choice];
                if (allows(design)) {
                    long sum = sumOf(design, number);
                    least = any ? Math.min(least, sum) : sum;
                    greatest = any ? Math.max(greatest, sum) : sum;
                    any = true;
                }
            }
            return greatest - least;
        }
    }

    /** The undominated designs, found anew only when something was told since. */
    private static final class Front {
        final Shape shape;
        final Book book;
        /** At first the heads alone (one of several designs with the same numbers), in the end all undominated ones. */
        final int[] members = new int[MOST_DESIGNS];
        /** By design the head with its numbers (itself, too); NONE when it is beaten or not legal. */
        private final int[] heads = new int[MOST_DESIGNS];
        int size = 0;
        boolean fresh = false;

        Front(Shape shape, Book book) {
            this.shape = shape;
            this.book = book;
        }

        void forget() {
            fresh = false;
        }

        void refresh() {
            if (fresh) {
                return;
            }
            findHeads();
            collectMembers();
            fresh = true;
        }

        private void findHeads() {
            size = 0;
            for (int design = 0; design < shape.designs; design++) {
                heads[design] = book.allows(design) ? headFor(design) : NONE;
                if (heads[design] == design) {
                    dropBeatenBy(design);
                    members[size] = design;
                    size++;
                }
            }
        }

        /** Comparing with heads is enough: what a dropped head would beat, the one that beat it beats, too. */
        private int headFor(int design) {
            for (int i = 0; i < size; i++) {
                int head = members[i];
                if (book.isAtMost(head, design)) {
                    return book.isAtMost(design, head) ? head : NONE;
                }
            }
            return design;
        }

        private void dropBeatenBy(int design) {
            int kept = 0;
            for (int i = 0; i < size; i++) {
                int head = members[i];
                if (book.isAtMost(design, head)) {
                    heads[head] = NONE;
                } else {
                    members[kept] = head;
                    kept++;
                }
            }
            size = kept;
        }

        private void collectMembers() {
            size = 0;
            for (int design = 0; design < shape.designs; design++) {
                int head = heads[design];
                if (head != NONE && heads[head] != NONE) {
                    members[size] = design;
                    size++;
                }
            }
        }
    }

    /** The search for the best design, depth by depth. */
    private static final class Search {
        final Shape shape;
        final Book book;
        private final int[] row = new int[MOST_CHOICES];
        int rowsSeen = 0;
        private int found = NONE;
        private int least = 0;

        Search(Shape shape, Book book) {
            this.shape = shape;
            this.book = book;
        }

        int leastOf(int number) {
            found = NONE;
            int set = 0;
            for (int seen = 1; set != NONE && seen <= MOST_ROWS; seen++) {
                rowsSeen = seen;
                boolean passed = isPassedBy(number, set);
                if (!passed && set < shape.choices) {
                    row[set] = 0;
                    set++;
                } else {
                    if (!passed) {
                        keepRow(number);
                    }
                    set = goBehind(set);
                }
            }
            return found;
        }

        private void keepRow(int number) {
            found = shape.designOf(row);
            least = book.sumOf(found, number);
        }

        /** Makes the row the first one behind all that begin with it: how many are set then, NONE without one. */
        private int goBehind(int set) {
            for (int c = set - 1; c >= 0; c--) {
                if (row[c] < shape.sizes[c] - 1) {
                    row[c]++;
                    return c + 1;
                }
            }
            return NONE;
        }

        private boolean isPassedBy(int number, int set) {
            return book.barsRow(row, set) || book.limitsRow(row, set)
                    || found != NONE && book.boundOf(number, row, set) >= least;
        }

        int boundFor(int number, int design, int set) {
            for (int c = 0; c < set; c++) {
                row[c] = shape.digit(design, c);
            }
            return book.boundOf(number, row, set);
        }
    }

    /** Walks by what is drawn, and what is known of the latest one. */
    private static final class Walker {
        final Shape shape;
        final Book book;
        private int x;
        int leeway = 0;
        int cheapest = NONE;
        int moves = 0;

        Walker(Shape shape, Book book, int x) {
            this.shape = shape;
            this.book = book;
            this.x = x;
        }

        int go(int design, int steps) {
            int here = design;
            long cost = book.costOf(design);
            long leastCost = cost;
            cheapest = design;
            moves = 0;
            for (int step = 0; step < steps; step++) {
                int there = drawNear(here);
                long newCost = book.costOf(there);
                if (book.allows(there) && newCost <= cost + leeway) {
                    here = there;
                    cost = newCost;
                    moves++;
                    if (cost < leastCost) {
                        leastCost = cost;
                        cheapest = here;
                    }
                }
            }
            return here;
        }

        private int drawNear(int design) {
            // int arithmetic wraps around, which leaves the lowest 31 bits right
            x = (1103515245 * x + 12345) & LOWEST_31_BITS;
            int all = shape.neighbours();
            return all > 0 ? shape.neighbour(design, x / 65536 % all) : design;
        }
    }

    /** The sweep that goes on where it was. */
    private static final class Sweeper {
        final Shape shape;
        final Book book;
        int next = 0;
        int allowed = 0;

        Sweeper(Shape shape, Book book) {
            this.shape = shape;
            this.book = book;
        }

        void beginAnew() {
            next = 0;
            allowed = 0;
        }

        boolean isAtEnd() {
            return next >= shape.designs;
        }

        int goOn(int n) {
            int end = Math.min(next + n, shape.designs);
            int legalOnes = 0;
            for (int design = next; design < end; design++) {
                if (book.allows(design)) {
                    legalOnes++;
                }
            }
            next = end;
            allowed += legalOnes;
            return legalOnes;
        }
    }
}
