import java.util.ArrayList;
import java.util.List;

/** The promises of the document, sentence by sentence: each sentence has tests of its own, which name it. */
public final class PromisesTest extends Sentences {
    private static final int[] NO_NUMBERS = {MIN, -1, 4, MAX};
    /** Of used(), which has six designs and two choices. */
    private static final int[] NO_DESIGNS = {MIN, -1, 6, MAX};
    private static final int[] NO_CHOICES = {MIN, -1, 2, MAX};

    // ---- promise 1: a new object

    @Says(promise = 1, text = "x is the seed's lowest 31 bits")
    static void seedsLowest31Bits() {
        for (int seed : new int[] {0, 1, -1, MIN, MIN + 1, MAX, 123456789, -123456789}) {
            is(waysOf(new DesignSpaces(seed)), plainWays(seed & 0x7fffffffL));
            is(waysOf(new DesignSpaces(seed)), waysOf(new DesignSpaces(seed ^ MIN)));
        }
    }

    /** Without terms each step is gone, and with one choice the way tells each draw. */
    private static String waysOf(DesignSpaces x) {
        x.choice(6);
        StringBuilder out = new StringBuilder();
        int at = 0;
        for (int i = 0; i < 30; i++) {
            at = x.walk(at, 1);
            out.append(at);
        }
        return out.toString();
    }

    private static String plainWays(long seed) {
        long x = seed;
        StringBuilder out = new StringBuilder();
        long at = 0;
        for (int i = 0; i < 30; i++) {
            x = (1103515245L * x + 12345) % (1L << 31);
            long k = x / 65536 % 5;
            at = k < at ? k : k + 1;
            out.append(at);
        }
        return out.toString();
    }

    @Says(promise = 1, text = "no choices, terms, rules, limits")
    static void nothingToldYet() {
        DesignSpaces x = new DesignSpaces(5);
        for (int what : new int[] {0, 2, 3, 4}) {
            is(x.count(what), 0);
        }
        is(x.count(1), 1);
        for (int n = 0; n < 4; n++) {
            is(x.number(0, n), 0);
            is(x.limit(n, true, 0), false);
        }
        is(x.choice(2), 0);
        is(x.choice(2), 1);
        is(x.term(0, 0, 0, NONE, 0, 1), 1);
        is(x.rule(0, 0, 1, 0), 1);
    }

    @Says(promise = 1, text = "slack 0")
    static void noSlackYet() {
        DesignSpaces x = new DesignSpaces(5);
        is(x.count(5), 0);
        is(x.slack(3), 0);
        DesignSpaces y = space(2);
        weigh(y, 0, 0, 1);
        is(y.walk(0, 9), 0);
    }

    // ---- promise 2: choice

    @Says(promise = 2, text = "A choice more: its number")
    static void choicesAreNumberedFromZero() {
        DesignSpaces x = new DesignSpaces(0);
        for (int c = 0; c < 8; c++) {
            is(x.choice(2 + c % 2), c);
            is(x.count(0), c + 1);
        }
    }

    @Says(promise = 2, text = "IllegalArgumentException, when values are not 2 .. 6")
    static void choiceOfTooFewOrTooManyValues() {
        for (int values : new int[] {MIN, -1, 0, 1, 7, 8, MAX}) {
            refused(ARGUMENT, () -> new DesignSpaces(4), x -> x.choice(values));
            refused(ARGUMENT, Sentences::used, x -> x.choice(values));
        }
        is(space(2).count(1), 2);
        is(space(6).count(1), 6);
    }

    @Says(promise = 2, text = "UnsupportedOperationException, when there are eight")
    static void choiceBehindTheEighth() {
        refused(UNSUPPORTED, () -> space(2, 2, 2, 2, 2, 2, 2, 2), x -> x.choice(2));
        refused(UNSUPPORTED, () -> space(2, 2, 2, 2, 2, 2, 2, 2), x -> x.choice(6));
        is(space(2, 2, 2, 2, 2, 2, 2).choice(6), 7);
    }

    @Says(promise = 2, text = "or there would be more than 4096 designs")
    static void choiceThatMakesTooManyDesigns() {
        refused(UNSUPPORTED, () -> space(4, 4, 4, 4, 4), x -> x.choice(5));
        refused(UNSUPPORTED, () -> space(4, 4, 4, 4, 4), x -> x.choice(6));
        refused(UNSUPPORTED, () -> space(4, 4, 4, 4, 4, 4), x -> x.choice(2));
        refused(UNSUPPORTED, () -> space(6, 6, 6, 6), x -> x.choice(4));
        DesignSpaces full = space(4, 4, 4, 4, 4);
        fails(UNSUPPORTED, () -> full.choice(5));
        is(full.choice(4), 5);
        is(full.count(1), 4096);
        DesignSpaces nearlyFull = space(6, 6, 6, 6, 3);
        is(nearlyFull.count(1), 3888);
        fails(UNSUPPORTED, () -> nearlyFull.choice(2));
    }

    @Says(promise = 2, text = "UnsupportedOperationException, when there are eight")
    static void refusedChoiceLeavesTheSweepWhereItIs() {
        DesignSpaces x = space(2, 2, 2, 2, 2, 2, 2, 2);
        is(x.sweep(10), 10);
        fails(UNSUPPORTED, () -> x.choice(2));
        is(x.count(6), 10);
        is(x.count(7), 10);
    }

    // ---- promise 3: term

    @Says(promise = 3, text = "A term of one value (b NONE; vb does not matter), or of two: how many there are")
    static void termsOfOneValueAndOfTwo() {
        DesignSpaces x = space(2, 3);
        int told = 0;
        for (int vb : new int[] {MIN, -1, 0, 3, MAX}) {
            told++;
            is(x.term(0, 0, 1, NONE, vb, 1), told);
        }
        is(numbers(x, 0), "0 0 0 5 5 5");
        is(x.term(1, 1, 2, 0, 1, 7), 6);
        is(x.term(1, 0, 0, 1, 0, 9), 7);
        is(numbers(x, 1), "9 0 0 0 0 7");
    }

    @Says(promise = 3, text = "IndexOutOfBoundsException, when there is no such number, choice or value")
    static void termOfNoNumber() {
        for (int number : NO_NUMBERS) {
            refused(BOUNDS, Sentences::used, x -> x.term(number, 0, 0, NONE, 0, 1));
            refused(BOUNDS, Sentences::used, x -> x.term(number, 0, 0, 1, 0, 1));
        }
        is(used().term(0, 0, 0, NONE, 0, 1), 4);
        is(used().term(3, 0, 0, NONE, 0, 1), 4);
    }

    @Says(promise = 3, text = "IndexOutOfBoundsException, when there is no such number, choice or value")
    static void termOfNoChoice() {
        for (int a : NO_CHOICES) {
            refused(BOUNDS, Sentences::used, x -> x.term(0, a, 0, NONE, 0, 1));
            refused(BOUNDS, Sentences::used, x -> x.term(0, a, 0, 1, 0, 1));
        }
        for (int b : new int[] {MIN, -2, 2, MAX}) {
            refused(BOUNDS, Sentences::used, x -> x.term(0, 0, 0, b, 0, 1));
        }
        refused(BOUNDS, () -> new DesignSpaces(1), x -> x.term(0, 0, 0, NONE, 0, 1));
        is(used().term(0, 1, 0, NONE, 0, 1), 4);
        is(used().term(0, 0, 0, 1, 0, 1), 4);
    }

    @Says(promise = 3, text = "IndexOutOfBoundsException, when there is no such number, choice or value")
    static void termOfNoValue() {
        for (int value : new int[] {MIN, -1, 2, 3, MAX}) {
            refused(BOUNDS, Sentences::used, x -> x.term(0, 0, value, NONE, 0, 1));
            refused(BOUNDS, Sentences::used, x -> x.term(0, 0, value, 1, 0, 1));
            refused(BOUNDS, Sentences::used, x -> x.term(0, 1, 0, 0, value, 1));
        }
        for (int value : new int[] {MIN, -1, 3, MAX}) {
            refused(BOUNDS, Sentences::used, x -> x.term(0, 1, value, NONE, 0, 1));
            refused(BOUNDS, Sentences::used, x -> x.term(0, 0, 0, 1, value, 1));
        }
        is(used().term(0, 1, 2, 0, 1, 1), 4);
        is(used().term(0, 0, 1, 1, 2, 1), 4);
    }

    @Says(promise = 3, text = "IllegalArgumentException, when a and b are one choice")
    static void termOfOneChoiceTwice() {
        for (int c = 0; c < 2; c++) {
            int choice = c;
            refused(ARGUMENT, Sentences::used, x -> x.term(0, choice, 0, choice, 1, 1));
            refused(ARGUMENT, Sentences::used, x -> x.term(0, choice, 1, choice, 1, 1));
        }
    }

    @Says(promise = 3, text = "or the weight is none")
    static void termOfNoWeight() {
        for (int weight : new int[] {MIN, -1000001, 1000001, MAX}) {
            refused(ARGUMENT, Sentences::used, x -> x.term(0, 0, 0, NONE, 0, weight));
            refused(ARGUMENT, Sentences::used, x -> x.term(0, 0, 0, 1, 0, weight));
        }
        for (int weight : new int[] {-1000000, -1, 0, 1, 1000000}) {
            DesignSpaces x = space(2);
            is(x.term(3, 0, 1, NONE, 0, weight), 1);
            is(x.number(1, 3), weight);
        }
    }

    private static DesignSpaces withTerms(int terms) {
        DesignSpaces x = space(2, 2);
        for (int i = 0; i < terms; i++) {
            is(x.term(i % 4, i % 2, 0, NONE, 0, i), i + 1);
        }
        return x;
    }

    @Says(promise = 3, text = "UnsupportedOperationException, when there are 100")
    static void termBehindTheHundredth() {
        for (int n = 0; n < 4; n++) {
            int number = n;
            refused(UNSUPPORTED, () -> withTerms(100), x -> x.term(number, 0, 0, NONE, 0, 1));
            refused(UNSUPPORTED, () -> withTerms(100), x -> x.term(number, 0, 0, 1, 1, 1));
        }
        is(withTerms(99).term(0, 0, 0, NONE, 0, 1), 100);
    }

    // ---- promise 4: rule

    @Says(promise = 4, text = "A rule more: how many there are")
    static void rulesAreCounted() {
        DesignSpaces x = space(2, 3);
        is(x.rule(0, 0, 1, 2), 1);
        is(x.rule(1, 1, 0, 1), 2);
        is(legalOnes(x), "110101");
        // the same one again is one more, and changes nothing
        is(x.rule(0, 0, 1, 2), 3);
        is(legalOnes(x), "110101");
    }

    @Says(promise = 4, text = "IndexOutOfBoundsException, when there is no such choice or value")
    static void ruleOfNoChoice() {
        for (int choice : NO_CHOICES) {
            refused(BOUNDS, Sentences::used, x -> x.rule(choice, 0, 1, 0));
            refused(BOUNDS, Sentences::used, x -> x.rule(0, 0, choice, 0));
        }
        refused(BOUNDS, () -> new DesignSpaces(1), x -> x.rule(0, 0, 1, 0));
        refused(BOUNDS, () -> space(3), x -> x.rule(0, 0, 1, 0));
        is(used().rule(1, 0, 0, 0), 2);
    }

    @Says(promise = 4, text = "IndexOutOfBoundsException, when there is no such choice or value")
    static void ruleOfNoValue() {
        for (int value : new int[] {MIN, -1, 2, 3, MAX}) {
            refused(BOUNDS, Sentences::used, x -> x.rule(0, value, 1, 0));
            refused(BOUNDS, Sentences::used, x -> x.rule(1, 0, 0, value));
        }
        for (int value : new int[] {MIN, -1, 3, MAX}) {
            refused(BOUNDS, Sentences::used, x -> x.rule(1, value, 0, 0));
            refused(BOUNDS, Sentences::used, x -> x.rule(0, 0, 1, value));
        }
        is(used().rule(0, 1, 1, 2), 2);
        is(used().rule(1, 2, 0, 1), 2);
    }

    @Says(promise = 4, text = "IllegalArgumentException, when a and b are one")
    static void ruleOfOneChoiceTwice() {
        refused(ARGUMENT, Sentences::used, x -> x.rule(0, 0, 0, 1));
        refused(ARGUMENT, Sentences::used, x -> x.rule(1, 2, 1, 2));
    }

    private static DesignSpaces withRules(int rules) {
        DesignSpaces x = space(6, 6);
        for (int i = 0; i < rules; i++) {
            is(x.rule(0, i % 6, 1, i / 6 % 6), i + 1);
        }
        return x;
    }

    @Says(promise = 4, text = "UnsupportedOperationException, when there are forty")
    static void ruleBehindTheFortieth() {
        refused(UNSUPPORTED, () -> withRules(40), x -> x.rule(0, 0, 1, 0));
        refused(UNSUPPORTED, () -> withRules(40), x -> x.rule(1, 5, 0, 5));
        is(withRules(39).rule(0, 0, 1, 0), 40);
    }

    // ---- promise 5: limit

    @Says(promise = 5, text = "A number's limit (on false: none): whether it had one")
    static void limitsComeAndGo() {
        for (int n = 0; n < 4; n++) {
            DesignSpaces x = space(3);
            weigh(x, n, 0, 5, -5);
            is(x.limit(n, false, -6), false);
            is(legalOnes(x), "111");
            is(x.limit(n, true, 4), false);
            is(legalOnes(x), "101");
            is(x.limit(n, true, -5), true);
            is(legalOnes(x), "001");
            is(x.limit(n, false, -5), true);
            is(legalOnes(x), "111");
            is(x.limit(n, false, -5), false);
            is(x.limit(n, true, 5), false);
            is(x.limit((n + 1) % 4, true, 0), false);
        }
    }

    @Says(promise = 5, text = "A number's limit (on false: none): whether it had one")
    static void limitsOfTheLeastAndTheGreatestInt() {
        DesignSpaces x = space(2);
        is(x.limit(0, true, MAX), false);
        is(legalOnes(x), "11");
        is(x.limit(0, true, MIN), true);
        is(legalOnes(x), "00");
        is(x.best(0), NONE);
        is(x.limit(0, false, MIN), true);
        is(legalOnes(x), "11");
    }

    @Says(promise = 5, text = "IndexOutOfBoundsException, when there is no such number")
    static void limitOfNoNumber() {
        for (int number : NO_NUMBERS) {
            refused(BOUNDS, Sentences::used, x -> x.limit(number, true, -1000));
            refused(BOUNDS, Sentences::used, x -> x.limit(number, false, 0));
        }
    }

    // ---- promise 6: number

    @Says(promise = 6, text = "Of a design a number")
    static void numbersOfDesigns() {
        DesignSpaces x = space(2, 2);
        x.term(0, 0, 1, NONE, 0, 10);
        x.term(0, 0, 1, 1, 0, 3);
        x.term(0, 1, 0, 0, 1, 4);
        x.term(3, 1, 1, NONE, 0, -9);
        is(numbers(x, 0), "0 0 17 10");
        is(numbers(x, 1), "0 0 0 0");
        is(numbers(x, 3), "0 -9 0 -9");
        // one that is barred, or passes a limit, has its numbers all the same
        x.rule(0, 1, 1, 0);
        x.limit(0, true, 9);
        is(numbers(x, 0), "0 0 17 10");
        is(new DesignSpaces(1).number(0, 3), 0);
    }

    @Says(promise = 6, text = "IndexOutOfBoundsException, when there is no such design or number")
    static void numberOfNoDesignOrNumber() {
        for (int design : NO_DESIGNS) {
            refused(BOUNDS, Sentences::used, x -> x.number(design, 0));
        }
        for (int number : NO_NUMBERS) {
            refused(BOUNDS, Sentences::used, x -> x.number(0, number));
            refused(BOUNDS, Sentences::used, x -> x.number(5, number));
        }
        refused(BOUNDS, () -> new DesignSpaces(1), x -> x.number(1, 0));
        fails(BOUNDS, () -> space(4, 4, 4, 4, 4, 4).number(4096, 0));
        is(space(4, 4, 4, 4, 4, 4).number(4095, 3), 0);
    }

    // ---- promise 7: value

    @Says(promise = 7, text = "A design's value of a choice")
    static void valuesOfDesigns() {
        DesignSpaces x = space(2, 3, 4);
        for (int design = 0; design < 24; design++) {
            is(x.value(design, 0), design / 12);
            is(x.value(design, 1), design / 4 % 3);
            is(x.value(design, 2), design % 4);
        }
    }

    @Says(promise = 7, text = "IndexOutOfBoundsException, when there is no such design or choice")
    static void valueOfNoDesignOrChoice() {
        for (int design : NO_DESIGNS) {
            refused(BOUNDS, Sentences::used, x -> x.value(design, 0));
        }
        for (int choice : NO_CHOICES) {
            refused(BOUNDS, Sentences::used, x -> x.value(0, choice));
        }
        refused(BOUNDS, () -> new DesignSpaces(1), x -> x.value(0, 0));
        fails(BOUNDS, () -> space(2, 2, 2, 2, 2, 2, 2, 2).value(255, 8));
        is(space(2, 2, 2, 2, 2, 2, 2, 2).value(255, 7), 1);
    }

    // ---- promise 8: legal

    @Says(promise = 8, text = "Whether a design is legal")
    static void legalDesigns() {
        DesignSpaces x = space(2, 2);
        is(legalOnes(x), "1111");
        x.rule(0, 1, 1, 1);
        is(legalOnes(x), "1110");
        x.term(3, 0, 0, NONE, 0, 1);
        x.limit(3, true, 0);
        is(legalOnes(x), "0010");
        x.term(3, 0, 0, 1, 1, -1);
        is(legalOnes(x), "0110");
    }

    @Says(promise = 8, text = "IndexOutOfBoundsException, when there is none")
    static void legalOfNoDesign() {
        for (int design : NO_DESIGNS) {
            refused(BOUNDS, Sentences::used, x -> x.legal(design));
        }
        refused(BOUNDS, () -> new DesignSpaces(1), x -> x.legal(1));
        fails(BOUNDS, () -> space(4, 4, 4, 4, 4, 4).legal(4096));
        is(space(4, 4, 4, 4, 4, 4).legal(4095), true);
    }

    // ---- promise 9: beats

    @Says(promise = 9, text = "Whether one design beats another one")
    static void beatingDesigns() {
        DesignSpaces x = space(4);
        weigh(x, 0, 0, 1, -1, 0);
        weigh(x, 1, 0, 0, 1, 0);
        is(x.beats(0, 1), true);
        is(x.beats(1, 0), false);
        is(x.beats(0, 2), false);
        is(x.beats(2, 0), false);
        is(x.beats(0, 3), false);
        is(x.beats(3, 3), false);
    }

    @Says(promise = 9, text = "IndexOutOfBoundsException, when there are no such designs")
    static void beatsOfNoDesigns() {
        for (int design : NO_DESIGNS) {
            refused(BOUNDS, Sentences::used, x -> x.beats(design, 0));
            refused(BOUNDS, Sentences::used, x -> x.beats(0, design));
            refused(BOUNDS, Sentences::used, x -> x.beats(design, design));
        }
        refused(BOUNDS, () -> new DesignSpaces(1), x -> x.beats(0, 1));
        is(new DesignSpaces(1).beats(0, 0), false);
        is(used().beats(4, 3), true);
        is(used().beats(3, 4), false);
    }

    @Says(promise = 9, text = "IllegalArgumentException, when one is not legal")
    static void beatsOfIllegalDesigns() {
        refused(ARGUMENT, Sentences::used, x -> x.beats(5, 0));
        refused(ARGUMENT, Sentences::used, x -> x.beats(0, 5));
        refused(ARGUMENT, Sentences::used, x -> x.beats(5, 5));
        DesignSpaces x = space(2);
        weigh(x, 0, 0, 7);
        is(x.beats(0, 1), true);
        x.limit(0, true, 6);
        fails(ARGUMENT, () -> x.beats(0, 1));
        fails(ARGUMENT, () -> x.beats(1, 0));
        x.limit(0, true, 7);
        is(x.beats(0, 1), true);
    }

    // ---- promises 10 and 11: undominated, at

    @Says(promise = 10, text = "How many designs are undominated")
    static void undominatedFromNoneToAll() {
        is(new DesignSpaces(1).undominated(), 1);
        is(space(4, 4, 4, 4, 4, 4).undominated(), 4096);
        DesignSpaces x = space(3);
        weigh(x, 2, 2, 1, 3);
        is(x.undominated(), 1);
        x.limit(2, true, 0);
        is(x.undominated(), 0);
        x.limit(2, true, 1);
        is(x.undominated(), 1);
    }

    @Says(promise = 11, text = "The k-th undominated one")
    static void undominatedByNumber() {
        DesignSpaces x = space(5);
        weigh(x, 0, 0, 1, 0, 0, -2);
        weigh(x, 1, 0, 0, 0, 0, 1);
        is(front(x), "4: 0 2 3 4");
        DesignSpaces full = space(4, 4, 4, 4, 4, 4);
        is(full.at(0), 0);
        is(full.at(4095), 4095);
        // at() alone, without undominated() before it
        DesignSpaces y = space(3);
        weigh(y, 3, 1, 0, 1);
        is(y.at(0), 1);
    }

    @Says(promise = 11, text = "IndexOutOfBoundsException, when there is none")
    static void noSuchUndominatedOne() {
        int size = used().undominated();
        for (int k : new int[] {MIN, -1, size, size + 1, MAX}) {
            refused(BOUNDS, Sentences::used, x -> x.at(k));
        }
        refused(BOUNDS, () -> new DesignSpaces(1), x -> x.at(1));
        is(new DesignSpaces(1).at(0), 0);
        fails(BOUNDS, () -> space(4, 4, 4, 4, 4, 4).at(4096));
        DesignSpaces none = space(2);
        none.limit(0, true, -1);
        fails(BOUNDS, () -> none.at(0));
    }

    // ---- promises 12 and 13: best, looked

    @Says(promise = 12, text = "The best design of a number")
    static void bestOfEachNumber() {
        DesignSpaces x = space(4);
        weigh(x, 0, 3, 2, 1, 0);
        weigh(x, 1, 0, -1, 0, -1);
        weigh(x, 2, 5, 5, 4, 5);
        is(x.best(0), 3);
        is(x.best(1), 1);
        is(x.best(2), 2);
        is(x.best(3), 0);
        is(new DesignSpaces(1).best(3), 0);
    }

    @Says(promise = 12, text = "NONE without legal ones")
    static void bestWithoutLegalOnes() {
        DesignSpaces x = space(2, 2);
        for (int v = 0; v < 4; v++) {
            is(x.best(0), v < 3 ? v : 3);
            x.rule(0, v / 2, 1, v % 2);
        }
        is(x.best(0), NONE);
        is(x.best(3), NONE);
        DesignSpaces y = new DesignSpaces(1);
        y.limit(3, true, -1);
        is(y.best(0), NONE);
        y.limit(3, true, 0);
        is(y.best(0), 0);
    }

    @Says(promise = 12, text = "IndexOutOfBoundsException, when there is no such number")
    static void bestOfNoNumber() {
        for (int number : NO_NUMBERS) {
            refused(BOUNDS, Sentences::used, x -> x.best(number));
            refused(BOUNDS, () -> new DesignSpaces(1), x -> x.best(number));
        }
    }

    @Says(promise = 13, text = "How many rows the latest best() looked at (0 before one)")
    static void rowsOfTheLatestBest() {
        DesignSpaces x = space(3, 2);
        is(x.looked(), 0);
        x.undominated();
        x.bound(0, 0, 2);
        x.walk(0, 1);
        is(x.looked(), 0);
        // the empty row, 0, 00, 01, 1, 2: behind 00 nothing is below its 0
        x.best(0);
        is(x.looked(), 6);
        x.limit(1, true, -1);
        is(x.looked(), 6);
        fails(BOUNDS, () -> x.best(4));
        is(x.looked(), 6);
        x.best(0);
        is(x.looked(), 1);
        x.choice(2);
        is(x.looked(), 1);
    }

    // ---- promise 14: bound

    @Says(promise = 14, text = "The bound of a number for the first choices set as in a design")
    static void boundsFromNoneSetToAllSet() {
        DesignSpaces x = space(2, 2, 2);
        x.term(0, 0, 1, NONE, 0, 10);
        x.term(0, 1, 1, NONE, 0, -3);
        x.term(0, 0, 1, 2, 1, -20);
        x.term(0, 2, 0, 1, 0, 100);
        int[] due = {-23, -13, -10, 110};
        for (int set = 0; set <= 3; set++) {
            is(x.bound(0, 4, set), due[set]);
        }
        is(x.bound(0, 0, 1), -3);
        is(x.bound(0, 7, 3), -13);
        is(x.bound(3, 7, 3), 0);
        is(new DesignSpaces(1).bound(3, 0, 0), 0);
    }

    @Says(promise = 14, text = "IndexOutOfBoundsException, when there is no such number or design")
    static void boundOfNoNumberOrDesign() {
        for (int number : NO_NUMBERS) {
            refused(BOUNDS, Sentences::used, x -> x.bound(number, 0, 0));
        }
        for (int design : NO_DESIGNS) {
            refused(BOUNDS, Sentences::used, x -> x.bound(0, design, 0));
            refused(BOUNDS, Sentences::used, x -> x.bound(0, design, 2));
        }
        refused(BOUNDS, () -> new DesignSpaces(1), x -> x.bound(0, 1, 0));
    }

    @Says(promise = 14, text = "or set is not 0 up to the choices")
    static void boundOfTooFewOrTooManySet() {
        for (int set : new int[] {MIN, -1, 3, MAX}) {
            refused(BOUNDS, Sentences::used, x -> x.bound(0, 0, set));
        }
        refused(BOUNDS, () -> new DesignSpaces(1), x -> x.bound(0, 0, 1));
        fails(BOUNDS, () -> space(2, 2, 2, 2, 2, 2, 2, 2).bound(0, 0, 9));
        is(space(2, 2, 2, 2, 2, 2, 2, 2).bound(0, 0, 8), 0);
    }

    // ---- promise 15: near

    @Says(promise = 15, text = "The k-th near design")
    static void nearDesignsByNumber() {
        DesignSpaces x = space(2, 3, 2);
        int[] due = {2, 6, 10, 9};
        for (int k = 0; k < due.length; k++) {
            is(x.near(8, k), due[k]);
        }
    }

    @Says(promise = 15, text = "IndexOutOfBoundsException, when there is no such design, or none such")
    static void noSuchNearDesign() {
        for (int design : NO_DESIGNS) {
            refused(BOUNDS, Sentences::used, x -> x.near(design, 0));
        }
        for (int k : new int[] {MIN, -1, 3, 4, MAX}) {
            refused(BOUNDS, Sentences::used, x -> x.near(0, k));
            refused(BOUNDS, Sentences::used, x -> x.near(5, k));
        }
        is(used().near(5, 2), 4);
        refused(BOUNDS, () -> new DesignSpaces(1), x -> x.near(0, 0));
    }

    // ---- promise 16: slack

    @Says(promise = 16, text = "The slack: the one before")
    static void slackBefore() {
        DesignSpaces x = new DesignSpaces(1);
        is(x.slack(5), 0);
        is(x.slack(MAX), 5);
        is(x.slack(0), MAX);
        is(x.slack(0), 0);
    }

    @Says(promise = 16, text = "IllegalArgumentException, when it is below 0")
    static void slackBelowZero() {
        refused(ARGUMENT, Sentences::used, x -> x.slack(-1));
        refused(ARGUMENT, Sentences::used, x -> x.slack(MIN));
        is(used().slack(0), 2);
    }

    // ---- promises 17 and 18: walk, lowest

    @Says(promise = 17, text = "Walks from a design: where it comes to behind so many steps (1 .. 1000)")
    static void walksOfTheFewestAndTheMostSteps() {
        DesignSpaces x = space(2);
        is(x.walk(0, 1), 1);
        is(x.walk(1, 1), 0);
        is(x.walk(0, 999), 1);
        is(x.count(8), 999);
        is(x.walk(0, 1000), 0);
        is(x.count(8), 1000);
    }

    @Says(promise = 17, text = "IndexOutOfBoundsException, when there is no such design")
    static void walkFromNoDesign() {
        for (int design : NO_DESIGNS) {
            refused(BOUNDS, Sentences::used, x -> x.walk(design, 1));
        }
        refused(BOUNDS, () -> new DesignSpaces(1), x -> x.walk(1, 1));
    }

    @Says(promise = 17, text = "IllegalArgumentException, when it is not legal")
    static void walkFromIllegalDesign() {
        refused(ARGUMENT, Sentences::used, x -> x.walk(5, 1));
        refused(ARGUMENT, Sentences::used, x -> x.walk(5, 1000));
        DesignSpaces x = space(2);
        weigh(x, 1, 0, 7);
        x.limit(1, true, 6);
        fails(ARGUMENT, () -> x.walk(1, 1));
        is(x.lowest(), NONE);
        x.limit(1, true, 7);
        is(x.walk(1, 1), 0);
    }

    @Says(promise = 17, text = "or steps are none of these")
    static void walkOfTooFewOrTooManySteps() {
        for (int steps : new int[] {MIN, -1, 0, 1001, MAX}) {
            refused(ARGUMENT, Sentences::used, x -> x.walk(0, steps));
        }
    }

    @Says(promise = 17, text = "IllegalStateException, when there are no choices")
    static void walkWithoutChoices() {
        refused(STATE, () -> new DesignSpaces(1), x -> x.walk(0, 1));
        refused(STATE, () -> new DesignSpaces(1), x -> x.walk(0, 1000));
        // the refused walk has drawn nothing: the first draw of seed 1 is 16838, 3 modulo 5
        DesignSpaces x = new DesignSpaces(1);
        fails(STATE, () -> x.walk(0, 10));
        is(x.lowest(), NONE);
        x.choice(6);
        is(x.walk(0, 1), 4);
    }

    @Says(promise = 18, text = "The design of the least cost that the latest walk() was at")
    static void lowestOfTheLatestWalk() {
        DesignSpaces x = space(2);
        weigh(x, 0, 3, 1);
        is(x.walk(0, 1), 1);
        is(x.lowest(), 1);
        x.slack(2);
        // where it began counts, too
        is(x.walk(1, 1), 0);
        is(x.lowest(), 1);
        // and where it was between
        is(x.walk(0, 2), 0);
        is(x.lowest(), 1);
        x.slack(0);
        x.limit(0, true, 1);
        is(x.walk(1, 5), 1);
        x.limit(0, false, 0);
        fails(ARGUMENT, () -> x.walk(0, 0));
        is(x.lowest(), 1);
        DesignSpaces y = space(2);
        is(y.walk(0, 1), 1);
        is(y.lowest(), 0);
        is(y.walk(1, 2), 1);
        is(y.lowest(), 1);
        // a new choice is no walk
        y.choice(2);
        is(y.lowest(), 1);
        is(y.count(8), 2);
    }

    @Says(promise = 18, text = "The design of the least cost that the latest walk() was at")
    static void lowestIsNoneThatWasOnlyLookedAt() {
        DesignSpaces x = space(2);
        weigh(x, 0, 0, -9);
        weigh(x, 1, 0, 1);
        x.limit(1, true, 0);
        is(x.walk(0, 5), 0);
        is(x.lowest(), 0);
        is(x.count(8), 0);
    }

    @Says(promise = 18, text = "of several the first one")
    static void lowestOfSeveralIsTheFirst() {
        DesignSpaces x = space(2);
        is(x.walk(1, 5), 0);
        is(x.lowest(), 1);
        is(x.walk(0, 5), 1);
        is(x.lowest(), 0);
        // of the costs 5, 3, 3: the first draw is 16838 for seed 1 and 17747 for seed 3, even and odd
        is(lowestBetweenTwins(1), 1);
        is(lowestBetweenTwins(3), 2);
    }

    private static int lowestBetweenTwins(int seed) {
        DesignSpaces x = new DesignSpaces(seed);
        x.choice(3);
        weigh(x, 0, 5, 3, 0);
        weigh(x, 3, 0, 0, 3);
        x.walk(0, 200);
        // it went to the other one of them, and back
        is(x.count(8) > 2, true);
        return x.lowest();
    }

    @Says(promise = 18, text = "NONE before one")
    static void lowestBeforeAnyWalk() {
        is(new DesignSpaces(1).lowest(), NONE);
        DesignSpaces x = space(2);
        x.near(0, 0);
        fails(ARGUMENT, () -> x.walk(0, 0));
        fails(BOUNDS, () -> x.walk(2, 1));
        is(x.lowest(), NONE);
    }

    // ---- promise 19: matters

    @Says(promise = 19, text = "How much a choice matters for a number")
    static void choicesMatter() {
        DesignSpaces x = space(3, 2);
        x.term(0, 0, 1, NONE, 0, 1000000);
        x.term(0, 0, 2, 1, 1, -1000000);
        is(x.matters(0, 0), 2000000L);
        is(x.matters(1, 0), 1000000L);
        is(x.matters(1, 3), 0L);
    }

    @Says(promise = 19, text = "IndexOutOfBoundsException, when there is no such choice or number")
    static void mattersOfNoChoiceOrNumber() {
        for (int choice : NO_CHOICES) {
            refused(BOUNDS, Sentences::used, x -> x.matters(choice, 0));
        }
        for (int number : NO_NUMBERS) {
            refused(BOUNDS, Sentences::used, x -> x.matters(0, number));
            refused(BOUNDS, Sentences::used, x -> x.matters(1, number));
        }
        refused(BOUNDS, () -> new DesignSpaces(1), x -> x.matters(0, 0));
        fails(BOUNDS, () -> space(2, 2, 2, 2, 2, 2, 2, 2).matters(8, 0));
        is(space(2, 2, 2, 2, 2, 2, 2, 2).matters(7, 3), 0L);
    }

    // ---- promise 20: sweep

    @Says(promise = 20, text = "Sweeps on through n designs (1 .. 5000), or to the end: how many of these were legal")
    static void sweepsOfTheFewestAndTheMostDesigns() {
        DesignSpaces x = space(4, 4, 4, 4, 4, 4);
        x.rule(0, 0, 5, 3);
        is(x.sweep(1), 1);
        is(x.sweep(3), 2);
        is(x.count(6), 4);
        is(x.sweep(5000), 4096 - 256 - 3);
        is(x.count(6), NONE);
        is(space(4, 4, 4, 4, 4, 4).sweep(5000), 4096);
        DesignSpaces single = new DesignSpaces(1);
        is(single.sweep(5000), 1);
        is(single.count(6), NONE);
    }

    @Says(promise = 20, text = "Sweeps on through n designs (1 .. 5000), or to the end: how many of these were legal")
    static void sweepsThatEndJustAtTheEnd() {
        DesignSpaces x = space(4, 4, 4, 4, 4, 4);
        is(x.sweep(4095), 4095);
        is(x.count(6), 4095);
        is(x.sweep(1), 1);
        is(x.count(6), NONE);
        DesignSpaces y = space(4, 4, 4, 4, 4, 4);
        is(y.sweep(4096), 4096);
        is(y.count(6), NONE);
    }

    @Says(promise = 20, text = "IllegalArgumentException, when n is none of these")
    static void sweepOfTooFewOrTooMany() {
        for (int n : new int[] {MIN, -1, 0, 5001, MAX}) {
            refused(ARGUMENT, Sentences::used, x -> x.sweep(n));
        }
    }

    private static DesignSpaces sweptToTheEnd() {
        DesignSpaces x = used();
        x.sweep(4);
        return x;
    }

    @Says(promise = 20, text = "IllegalStateException, when it is at its end")
    static void sweepAtTheEnd() {
        refused(STATE, PromisesTest::sweptToTheEnd, x -> x.sweep(1));
        refused(STATE, PromisesTest::sweptToTheEnd, x -> x.sweep(5000));
        is(sweptToTheEnd().count(6), NONE);
        DesignSpaces x = new DesignSpaces(1);
        is(x.sweep(1), 1);
        fails(STATE, () -> x.sweep(1));
        // rules, terms and limits do not begin it anew
        DesignSpaces y = sweptToTheEnd();
        y.rule(0, 0, 1, 0);
        y.term(0, 0, 0, NONE, 0, 1);
        y.limit(0, true, 0);
        fails(STATE, () -> y.sweep(1));
    }

    // ---- promise 21: count

    @Says(promise = 21, text = "Choices (0), designs (1)")
    static void countOfChoicesAndDesigns() {
        DesignSpaces x = new DesignSpaces(1);
        int designs = 1;
        for (int c = 0; c < 8; c++) {
            is(x.count(0), c);
            is(x.count(1), designs);
            x.choice(c < 4 ? 2 : 4);
            designs *= c < 4 ? 2 : 4;
        }
        is(x.count(0), 8);
        is(x.count(1), 4096);
    }

    @Says(promise = 21, text = "terms (2), rules (3)")
    static void countOfTermsAndRules() {
        is(withTerms(0).count(2), 0);
        is(withTerms(1).count(2), 1);
        is(withTerms(100).count(2), 100);
        is(withTerms(100).count(3), 0);
        is(withRules(0).count(3), 0);
        is(withRules(40).count(3), 40);
        is(withRules(40).count(2), 0);
    }

    @Says(promise = 21, text = "limits (4), the slack (5)")
    static void countOfLimitsAndTheSlack() {
        DesignSpaces x = new DesignSpaces(1);
        for (int n = 0; n < 4; n++) {
            x.limit(n, true, n);
            is(x.count(4), n + 1);
        }
        x.limit(3, true, 9);
        is(x.count(4), 4);
        x.limit(0, false, 9);
        x.limit(0, false, 9);
        is(x.count(4), 3);
        x.slack(MAX);
        is(x.count(5), MAX);
        x.slack(0);
        is(x.count(5), 0);
    }

    @Says(promise = 21, text = "the design at which the sweep goes on (6; NONE at its end), legal ones counted by it so far (7)")
    static void countOfTheSweep() {
        DesignSpaces x = space(2, 3);
        x.rule(0, 0, 1, 1);
        List<String> seen = new ArrayList<>();
        for (int design = 0; design < 6; design++) {
            seen.add(x.count(6) + "/" + x.count(7));
            x.sweep(1);
        }
        is(seen, "[0/0, 1/1, 2/1, 3/2, 4/3, 5/4]");
        is(x.count(6), NONE);
        is(x.count(7), 5);
        DesignSpaces withoutChoices = new DesignSpaces(1);
        is(withoutChoices.count(6), 0);
        is(withoutChoices.count(7), 0);
        withoutChoices.sweep(1);
        is(withoutChoices.count(6), NONE);
        is(withoutChoices.count(7), 1);
    }

    @Says(promise = 21, text = "steps by which the latest walk came to another design (8)")
    static void countOfStepsThatWereGone() {
        DesignSpaces x = space(2);
        is(x.count(8), 0);
        x.walk(0, 4);
        is(x.count(8), 4);
        weigh(x, 0, 0, 1);
        x.walk(1, 4);
        is(x.count(8), 1);
        x.walk(0, 4);
        is(x.count(8), 0);
        x.slack(1);
        x.walk(0, 4);
        is(x.count(8), 4);
        fails(BOUNDS, () -> x.walk(2, 4));
        is(x.count(8), 4);
    }

    @Says(promise = 21, text = "NONE for another what")
    static void countOfAnotherWhat() {
        for (int what : new int[] {MIN, -2, -1, 9, 10, MAX}) {
            is(new DesignSpaces(1).count(what), NONE);
            is(used().count(what), NONE);
        }
    }

    public static void main(String[] args) throws Exception {
        List<String> sections = new ArrayList<>();
        for (int promise = 1; promise <= 21; promise++) {
            sections.add("Promise " + promise);
        }
        runAll(PromisesTest.class, sections);
    }
}
