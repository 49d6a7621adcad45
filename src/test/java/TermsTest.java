import java.math.BigInteger;
import java.util.List;
import java.util.Set;
import java.util.TreeSet;

/** The sentences of the document that stand before its promises: what the terms mean, and where they have an end. */
public final class TermsTest extends Sentences {
    // ---- What it is

    @Says(text = "Spaces of designs: choices with rules that bar some together, numbers as sums of terms, limits")
    static void wholeSpace() {
        DesignSpaces x = enginesAndWheels();
        is(legalOnes(x), "110111");
        is(numbers(x, 0), "0 0 0 40 40 40");
        is(numbers(x, 1), "0 0 0 0 0 -9");
        x.limit(0, true, 39);
        is(legalOnes(x), "110000");
    }

    @Says(text = "sweeps that go on where they were")
    static void whatCanBeAskedOfTheWholeSpace() {
        DesignSpaces x = enginesAndWheels();
        is(front(x), "3: 0 1 5");
        is(x.best(1), 5);
        is(x.near(0, 1), 1);
        is(x.matters(0, 0), 40L);
        is(x.walk(5, 1), 5);
        is(x.sweep(2), 2);
        is(x.sweep(2), 1);
    }

    @Says(text = "Spaces of designs: choices with rules that bar some together, numbers as sums of terms, limits")
    static void eachObjectIsASpaceOfItsOwn() {
        DesignSpaces x = used();
        DesignSpaces other = space(6, 2);
        weigh(other, 1, 5, 4, 3, 2, 1, 0);
        other.rule(0, 5, 1, 0);
        other.limit(1, true, 4);
        other.slack(9);
        other.walk(2, 50);
        other.best(1);
        other.undominated();
        other.sweep(7);
        is(portrait(x), portrait(used()));
    }

    private static DesignSpaces enginesAndWheels() {
        DesignSpaces x = new DesignSpaces(7);
        x.choice(2);
        x.choice(3);
        x.term(0, 0, 1, NONE, 0, 40);
        x.term(1, 0, 1, 1, 2, -9);
        x.rule(0, 0, 1, 2);
        x.limit(0, true, 50);
        return x;
    }

    @Says(text = "An object is used for at most 512 calls after it has been made")
    static void the512thCallIsAnsweredAsTheFirst() {
        DesignSpaces x = new DesignSpaces(MAX);
        x.choice(6);
        Draws draws = new Draws(MAX);
        int at = 0;
        for (int call = 2; call <= 511; call++) {
            int due = otherOf(at, draws.next() % 5);
            at = x.walk(at, 1);
            is(at, due);
        }
        is(x.choice(2), 1);
    }

    @Says(text = "what later calls answer is free")
    static void callsBehindThe512thThrowOnlyWhatTheyMay() {
        DesignSpaces x = used();
        for (int i = 0; i < 3000; i++) {
            int k = i;
            Set<String> may = Set.of("", BOUNDS, ARGUMENT, STATE, UNSUPPORTED);
            is(may.contains(thrownBy(() -> anyCall(x, k))), true);
        }
    }

    private static Object anyCall(DesignSpaces x, int k) {
        switch (k % 12) {
            case 0: return x.walk(k % 7, 1 + k % 1001);
            case 1: return x.sweep(1 + k % 9);
            case 2: return x.best(k % 5);
            case 3: return x.term(k % 4, k % 3, k % 2, 1, k % 3, k);
            case 4: return x.rule(k % 3, k % 4, 1, k % 3);
            case 5: return x.choice(k % 8);
            case 6: return x.at(k % 50);
            case 7: return x.bound(k % 4, k % 40, k % 9);
            case 8: return x.near(k % 100, k % 12);
            case 9: return x.matters(k % 8, k % 4);
            case 10: return x.beats(k % 60, k % 50);
            default: return x.limit(k % 4, k % 3 == 0, k % 100);
        }
    }

    private static String thrownBy(Runnable call) {
        try {
            call.run();
            return "";
        } catch (RuntimeException e) {
            return e.getClass().getSimpleName();
        }
    }

    // ---- Terms: choices, values, designs

    @Says(text = "CHOICES, up to 8, numbered from 0")
    static void eightChoicesAndNoNinth() {
        DesignSpaces x = new DesignSpaces(1);
        for (int c = 0; c < 8; c++) {
            is(x.choice(2), c);
        }
        fails(UNSUPPORTED, () -> x.choice(2));
        is(x.count(0), 8);
        is(x.term(0, 7, 1, 0, 1, 5), 1);
        is(x.number(129, 0), 5);
        is(x.number(128, 0), 0);
        is(x.rule(0, 1, 7, 0), 1);
        is(x.legal(128), false);
        is(x.legal(127), true);
    }

    @Says(text = "have 2 to 6 VALUES each")
    static void twoToSixValues() {
        for (int values = 2; values <= 6; values++) {
            DesignSpaces x = space(values);
            is(x.count(1), values);
            is(x.term(0, 0, values - 1, NONE, 0, 1), 1);
            int behind = values;
            fails(BOUNDS, () -> x.term(0, 0, behind, NONE, 0, 1));
        }
        fails(ARGUMENT, () -> new DesignSpaces(1).choice(1));
        fails(ARGUMENT, () -> new DesignSpaces(1).choice(7));
    }

    @Says(text = "all together at most 4096 DESIGNS")
    static void all4096DesignsAndNoMore() {
        DesignSpaces x = space(4, 4, 4, 2, 2, 2, 2, 4);
        is(x.count(1), 4096);
        is(x.legal(4095), true);
        fails(BOUNDS, () -> x.legal(4096));
        DesignSpaces y = space(6, 6, 6, 6, 3);
        is(y.count(1), 3888);
        fails(UNSUPPORTED, () -> y.choice(2));
        is(y.count(0), 5);
        is(y.legal(3887), true);
        fails(BOUNDS, () -> y.legal(3888));
    }

    @Says(text = "all together at most 4096 DESIGNS")
    static void firstAndLastOf4096DesignsAreTold() {
        DesignSpaces x = space(4, 4, 4, 4, 4, 4);
        for (int v = 0; v < 4; v++) {
            x.term(3, 0, v, 5, v, 10 + v);
            x.rule(1, v, 4, v);
        }
        is(x.number(0, 3), 10);
        is(x.number(4095, 3), 13);
        is(x.number(4094, 3), 0);
        is(x.legal(0), false);
        is(x.legal(4), true);
        is(x.legal(4095), false);
        is(x.sweep(5000), 3 * 1024);
    }

    @Says(text = "a design has one value of each choice")
    static void eachRowOfValuesIsOneDesign() {
        DesignSpaces x = space(3, 2, 4);
        Set<String> rows = new TreeSet<>();
        for (int design = 0; design < 24; design++) {
            rows.add(x.value(design, 0) + "," + x.value(design, 1) + "," + x.value(design, 2));
        }
        is(rows.size(), 24);
        is(rows.contains("0,0,0") && rows.contains("2,1,3"), true);
    }

    @Says(text = "as a number its values are digits, choice 0 the highest (so from 0 on; ")
    static void choiceZeroIsTheHighestDigit() {
        DesignSpaces x = space(2, 3, 6);
        is(x.value(0, 0) + x.value(0, 1) + x.value(0, 2), 0);
        is(x.value(17, 0), 0);
        is(x.value(18, 0), 1);
        is(x.value(17, 1), 2);
        is(x.value(18, 1), 0);
        is(x.value(35, 2), 5);
        fails(BOUNDS, () -> x.value(36, 0));
        fails(BOUNDS, () -> x.value(-1, 0));
        // a choice more is the lowest digit: what was design 17 becomes 34 and 35
        x.choice(2);
        is(x.value(34, 1) + " " + x.value(34, 2) + " " + x.value(34, 3), "2 5 0");
        is(x.value(35, 1) + " " + x.value(35, 2) + " " + x.value(35, 3), "2 5 1");
    }

    @Says(text = "as a number its values are digits, choice 0 the highest (so from 0 on; ")
    static void choiceMoreKeepsWhatWasToldOfTheOthers() {
        DesignSpaces x = space(3, 2);
        weigh(x, 1, 4, 7, 9);
        x.term(1, 1, 1, NONE, 0, 100);
        x.rule(0, 0, 1, 0);
        x.rule(0, 2, 1, 1);
        is(numbers(x, 1), "4 104 7 107 9 109");
        is(legalOnes(x), "011110");
        x.choice(3);
        is(numbers(x, 1), "4 4 4 104 104 104 7 7 7 107 107 107 9 9 9 109 109 109");
        is(legalOnes(x), "000111111111111000");
    }

    @Says(text = "without choices there is one, 0")
    static void oneDesignWithoutChoices() {
        DesignSpaces x = new DesignSpaces(1);
        is(x.count(1), 1);
        is(x.legal(0), true);
        fails(BOUNDS, () -> x.legal(1));
        fails(BOUNDS, () -> x.legal(-1));
        is(front(x), "1: 0");
        is(x.best(0), 0);
        is(x.sweep(9), 1);
        fails(STATE, () -> x.sweep(1));
    }

    // ---- Terms: numbers, rules, limits

    @Says(text = "NUMBERS 0 .. 3 of a design are sums of TERMS")
    static void numbersZeroToThree() {
        DesignSpaces x = space(2);
        for (int n = 0; n < 4; n++) {
            x.term(n, 0, 1, NONE, 0, 10 + n);
            x.term(n, 0, 1, NONE, 0, 100);
            is(x.number(1, n), 110 + n);
            is(x.number(0, n), 0);
        }
        fails(BOUNDS, () -> x.term(4, 0, 1, NONE, 0, 1));
        fails(BOUNDS, () -> x.number(1, 4));
        fails(BOUNDS, () -> x.number(1, -1));
    }

    @Says(text = "up to 100 in all")
    static void hundredTermsOverAllNumbers() {
        DesignSpaces mixed = space(2);
        for (int i = 0; i < 100; i++) {
            is(mixed.term(i % 4, 0, 1, NONE, 0, 1), i + 1);
        }
        for (int n = 0; n < 4; n++) {
            int number = n;
            is(mixed.number(1, n), 25);
            fails(UNSUPPORTED, () -> mixed.term(number, 0, 1, NONE, 0, 1));
            is(mixed.number(1, n), 25);
        }
    }

    @Says(text = "up to 100 in all")
    static void hundredTermsOfOneNumber() {
        for (int number = 0; number < 4; number++) {
            DesignSpaces x = space(2);
            for (int i = 0; i < 50; i++) {
                x.term(number, 0, 1, NONE, 0, 1000000);
                x.term(number, 0, 0, NONE, 0, -1000000);
            }
            is(x.number(1, number), 50000000);
            is(x.number(0, number), -50000000);
            is(x.bound(number, 0, 0), -50000000);
            is(x.matters(0, number), 100000000L);
            is(x.best(number), 0);
        }
    }

    @Says(text = "counts for designs with one value of a choice, or with one value each of two choices")
    static void termsCountForOneValueOrTwo() {
        DesignSpaces x = space(2, 3);
        x.term(0, 1, 2, NONE, 0, 5);
        is(numbers(x, 0), "0 0 5 0 0 5");
        x.term(1, 1, 2, 0, 1, 7);
        is(numbers(x, 1), "0 0 0 0 0 7");
        x.term(1, 0, 0, 1, 0, 9);
        is(numbers(x, 1), "9 0 0 0 0 7");
    }

    @Says(text = "it has a WEIGHT from -1000000 to 1000000")
    static void weightsOfTheLeastAndTheGreatest() {
        DesignSpaces x = space(2);
        x.term(0, 0, 0, NONE, 0, -1000000);
        x.term(0, 0, 1, NONE, 0, 1000000);
        is(numbers(x, 0), "-1000000 1000000");
        fails(ARGUMENT, () -> x.term(0, 0, 0, NONE, 0, -1000001));
        fails(ARGUMENT, () -> x.term(0, 0, 1, NONE, 0, 1000001));
        is(numbers(x, 0), "-1000000 1000000");
        is(x.term(0, 0, 1, NONE, 0, 0), 3);
        is(numbers(x, 0), "-1000000 1000000");
    }

    @Says(text = "RULES, up to 40, bar one value each of two choices together")
    static void fortyRules() {
        DesignSpaces x = space(6, 6, 2);
        for (int i = 0; i < 36; i++) {
            is(x.legal(i * 2 + 1), true);
            is(x.rule(1, i % 6, 0, i / 6), i + 1);
            is(x.legal(i * 2), false);
            is(x.legal(i * 2 + 1), false);
        }
        is(x.undominated(), 0);
        DesignSpaces y = space(6, 6, 2);
        for (int i = 0; i < 39; i++) {
            y.rule(0, 0, 1, 0);
        }
        is(y.legal(71), true);
        is(y.rule(2, 1, 1, 5), 40);
        is(y.legal(71), false);
        is(y.legal(70), true);
        fails(UNSUPPORTED, () -> y.rule(2, 0, 1, 5));
        is(y.legal(70), true);
        is(y.count(3), 40);
    }

    @Says(text = "LIMITS: a number may be told to be at most so much")
    static void numberMayBeJustAtItsLimit() {
        for (int n = 0; n < 4; n++) {
            DesignSpaces x = space(3);
            weigh(x, n, 6, 7, 8);
            x.limit(n, true, 7);
            is(legalOnes(x), "110");
            x.limit(n, true, 5);
            is(legalOnes(x), "000");
            x.limit(n, true, 8);
            is(legalOnes(x), "111");
        }
    }

    @Says(text = "A design is LEGAL, when no rule bars it and no limit is passed")
    static void legalNeedsRulesAndLimits() {
        DesignSpaces x = space(2, 2);
        weigh(x, 0, 0, 1);
        x.term(3, 1, 1, NONE, 0, 1);
        is(legalOnes(x), "1111");
        x.limit(0, true, 0);
        is(legalOnes(x), "1100");
        x.limit(3, true, 0);
        is(legalOnes(x), "1000");
        x.rule(0, 0, 1, 0);
        is(legalOnes(x), "0000");
        x.limit(0, false, 0);
        is(legalOnes(x), "0010");
    }

    // ---- Terms: beats, undominated

    @Says(text = "One legal design BEATS another one, when all its numbers are at most that one's, and some are less")
    static void beatingNeedsOneThatIsLess() {
        for (int n = 0; n < 4; n++) {
            DesignSpaces x = space(4);
            for (int m = 0; m < 4; m++) {
                weigh(x, m, 2, m == n ? 1 : 2, 2, m == n ? 3 : 2);
            }
            // 1 is less in one number and the same in the others, 2 is the same in all, 3 is more in one
            is(x.beats(1, 0), true);
            is(x.beats(0, 1), false);
            is(x.beats(2, 0), false);
            is(x.beats(0, 2), false);
            is(x.beats(0, 0), false);
            is(x.beats(0, 3), true);
            is(x.beats(3, 0), false);
            x.term((n + 1) % 4, 0, 1, NONE, 0, 1);
            is(x.beats(1, 0), false);
        }
    }

    @Says(text = "UNDOMINATED are legal designs that none beats")
    static void illegalDesignsNeitherBeatNorAreThere() {
        DesignSpaces x = space(3);
        weigh(x, 0, 0, 1, 2);
        weigh(x, 1, 1, 0, 0);
        is(front(x), "2: 0 1");
        x.limit(1, true, 0);
        is(front(x), "1: 1");
        x.limit(0, true, 0);
        is(front(x), "0:");
        // once the one that beat it is barred, the other is there
        DesignSpaces y = space(2, 2);
        weigh(y, 2, 0, 1);
        is(front(y), "2: 0 1");
        y.rule(0, 0, 1, 0);
        is(front(y), "1: 1");
        y.rule(0, 0, 1, 1);
        is(front(y), "2: 2 3");
    }

    @Says(text = "UNDOMINATED are legal designs that none beats")
    static void eachBeatenDesignIsLeftOut() {
        // 3 beats 0, the first one; 4 is beaten by 2 alone, and 5 by 1 alone
        DesignSpaces x = space(6);
        weigh(x, 0, 1, 5, 9, 0, 10, 6);
        weigh(x, 1, 9, 5, 1, 9, 2, 5);
        is(front(x), "3: 1 2 3");
        // the last one of all beats all others
        DesignSpaces y = space(6);
        weigh(y, 3, 5, 4, 3, 2, 1, 0);
        is(front(y), "1: 5");
    }

    @Says(text = "(designs with the same numbers are all there), in order")
    static void twinsAreAllThereInOrder() {
        DesignSpaces x = space(6);
        weigh(x, 0, 5, 3, 3, 6, 1, 1);
        is(front(x), "2: 4 5");
        weigh(x, 1, 1, 5, 5, 1, 6, 6);
        is(front(x), "5: 0 1 2 4 5");
        DesignSpaces all = space(4, 4, 4, 4, 4, 4);
        is(all.undominated(), 4096);
        for (int k : new int[] {0, 1, 2047, 4095}) {
            is(all.at(k), k);
        }
    }

    // ---- Terms: best, bounds, rows

    @Says(text = "BEST of a number: the legal design with the least of it, of several the lowest")
    static void bestOfSeveralIsTheLowest() {
        DesignSpaces x = space(6);
        weigh(x, 0, 4, 2, 3, 2, 2, 5);
        is(x.best(0), 1);
        weigh(x, 1, 0, 1, 0, 0, 0, 0);
        x.limit(1, true, 0);
        is(x.best(0), 3);
        is(space(6, 6).best(2), 0);
    }

    @Says(text = "It is looked for DEPTH BY DEPTH: with the first choices set, the next one by values in order")
    static void rowsComeDepthByDepth() {
        // each design is better than all before it, so that no row is passed by
        DesignSpaces falling = space(2, 3);
        falling.term(0, 0, 1, NONE, 0, -3);
        falling.term(0, 1, 1, NONE, 0, -1);
        falling.term(0, 1, 2, NONE, 0, -2);
        is(falling.best(0), 5);
        is(falling.looked(), 1 + 2 + 6);
        // each one is worse: the way down to design 0, and its neighbours at each depth
        DesignSpaces rising = space(2, 3);
        rising.term(0, 0, 1, NONE, 0, 3);
        rising.term(0, 1, 1, NONE, 0, 1);
        rising.term(0, 1, 2, NONE, 0, 2);
        is(rising.best(0), 0);
        is(rising.looked(), 1 + 2 + 3);
    }

    @Says(text = "a row of choices that are set is PASSED BY, when a rule bars two of it")
    static void barredRowsArePassedBy() {
        DesignSpaces x = space(2, 2, 2);
        x.rule(0, 0, 1, 0);
        // empty, 0, 00 (barred), 01, 010, 011 (not below 0), 1 (not below 0)
        is(x.best(0), 2);
        is(x.looked(), 7);
        // a rule whose second choice comes last bars whole rows alone
        DesignSpaces y = space(2, 2, 2);
        y.rule(2, 0, 0, 0);
        // empty, 0, 00, 000 (barred), 001, 01 and 1 (not below 0)
        is(y.best(0), 1);
        is(y.looked(), 7);
    }

    @Says(text = "or a limit's BOUND is passed")
    static void rowsPastALimitArePassedBy() {
        DesignSpaces x = space(2, 2);
        weigh(x, 1, 5, 4);
        x.limit(1, true, 4);
        // empty, 0 (5 is past 4), 1 (4 is not), 10, 11 (not below 0)
        is(x.best(0), 2);
        is(x.looked(), 5);
        x.limit(1, true, 5);
        is(x.best(0), 0);
        is(x.looked(), 1 + 2 + 2);
        x.limit(1, true, 3);
        is(x.best(0), NONE);
        is(x.looked(), 3);
        x.limit(1, true, -1);
        is(x.best(0), NONE);
        is(x.looked(), 1);
    }

    @Says(text = "or the number's bound is not below the least number of a legal design that was found so far")
    static void rowsNotBelowTheLeastArePassedBy() {
        DesignSpaces x = space(3, 2);
        weigh(x, 0, 2, 2, 1);
        // empty, 0, 00, 01 (2 is not below 2), 1 (nor here), 2 (1 is), 20, 21
        is(x.best(0), 4);
        is(x.looked(), 8);
        // one found that is not legal does not count: 00 and 01 are past the limit when they are whole
        DesignSpaces y = space(2, 2);
        weigh(y, 0, 0, 3);
        y.term(1, 0, 0, 1, 0, 1);
        y.term(1, 0, 0, 1, 1, 1);
        y.limit(1, true, 0);
        is(y.best(0), 2);
        is(y.looked(), 1 + 1 + 2 + 1 + 2);
    }

    @Says(text = "THE BOUND of a number for choices that are set: the sum of the weights of its terms that count for sure (all their choices are set so)")
    static void termsThatCountForSure() {
        DesignSpaces x = space(2, 2);
        x.term(0, 0, 0, NONE, 0, 10);
        x.term(0, 0, 0, 1, 1, 100);
        x.term(1, 0, 0, NONE, 0, 7);
        // above 0 a term counts only when all of it is set so
        is(x.bound(0, 1, 0), 0);
        is(x.bound(0, 1, 1), 10);
        is(x.bound(0, 1, 2), 110);
        is(x.bound(0, 0, 2), 10);
        is(x.bound(0, 3, 2), 0);
        is(x.bound(1, 1, 2), 7);
    }

    @Says(text = "and of those below 0 that may still count (none of their choices is set otherwise)")
    static void termsBelowZeroThatMayStillCount() {
        DesignSpaces x = space(2, 2, 2);
        x.term(0, 2, 1, 0, 1, -1);
        x.term(0, 1, 0, NONE, 0, -10);
        x.term(0, 1, 1, NONE, 0, -100);
        x.term(0, 2, 0, NONE, 0, 0);
        is(x.bound(0, 0, 0), -111);
        is(x.bound(0, 0, 1), -110);
        is(x.bound(0, 4, 1), -111);
        is(x.bound(0, 4, 2), -11);
        is(x.bound(0, 6, 2), -101);
        is(x.bound(0, 4, 3), -10);
        is(x.bound(0, 5, 3), -11);
        is(x.bound(0, 3, 3), -100);
        // with all choices set it is the design's number
        for (int design = 0; design < 8; design++) {
            is(x.bound(0, design, 3), x.number(design, 0));
        }
    }

    @Says(text = "LOOKED AT are rows (the empty one, too; whole ones, too), each time one is come to, passed by or not")
    static void emptyAndWholeRowsAreLookedAt() {
        DesignSpaces none = new DesignSpaces(1);
        is(none.best(0), 0);
        is(none.looked(), 1);
        none.limit(0, true, -1);
        is(none.best(0), NONE);
        is(none.looked(), 1);
        DesignSpaces x = space(6);
        is(x.best(0), 0);
        is(x.looked(), 7);
        x.limit(0, true, -1);
        is(x.best(0), NONE);
        is(x.looked(), 1);
    }

    @Says(text = "LOOKED AT are rows (the empty one, too; whole ones, too), each time one is come to, passed by or not")
    static void mostRowsOfAllAreLookedAt() {
        DesignSpaces x = space(4, 4, 4, 4, 2, 2, 2, 2);
        x.term(0, 7, 0, NONE, 0, 1);
        x.term(0, 7, 1, NONE, 0, 1);
        x.limit(0, true, 0);
        is(x.best(3), NONE);
        is(x.looked(), 1 + 4 + 16 + 64 + 256 + 512 + 1024 + 2048 + 4096);
    }

    // ---- Terms: near designs and walks

    @Says(text = "NEAR are designs that differ in one choice: in order of choices, then values")
    static void nearDesignsInOrder() {
        DesignSpaces x = space(3, 2, 3);
        is(nearOf(x, 0, 5), "6 12 3 1 2");
        is(nearOf(x, 17, 5), "5 11 14 15 16");
        is(nearOf(x, 10, 5), "4 16 7 9 11");
        // illegal ones are near all the same
        x.limit(0, true, -1);
        is(nearOf(x, 0, 5), "6 12 3 1 2");
        fails(BOUNDS, () -> x.near(0, 5));
        DesignSpaces most = space(6, 6, 6, 6);
        is(most.near(1295, 19), 1294);
        fails(BOUNDS, () -> most.near(1295, 20));
    }

    private static String nearOf(DesignSpaces x, int design, int all) {
        StringBuilder out = new StringBuilder();
        for (int k = 0; k < all; k++) {
            out.append(k == 0 ? "" : " ").append(x.near(design, k));
        }
        return out.toString();
    }

    /** The draws in the document's words, with numbers that never wrap around. */
    private static final class Draws {
        private static final BigInteger TWO_31 = BigInteger.ONE.shiftLeft(31);
        private static final BigInteger FACTOR = BigInteger.valueOf(1103515245);
        private static final BigInteger ADDED = BigInteger.valueOf(12345);
        private BigInteger x;

        Draws(int seed) {
            x = BigInteger.valueOf(seed).mod(TWO_31);
        }

        int next() {
            x = FACTOR.multiply(x).add(ADDED).mod(TWO_31);
            return x.intValueExact() / 65536;
        }

        /** The seed whose first x is this one. */
        static int seedFor(int first) {
            return BigInteger.valueOf(first).subtract(ADDED).multiply(FACTOR.modInverse(TWO_31)).mod(TWO_31).intValueExact();
        }
    }

    /** With one choice the k-th near design is the k-th value that is not the own one. */
    private static int otherOf(int own, int k) {
        return k < own ? k : k + 1;
    }

    @Says(text = "WALKS: from a design that is legal")
    static void walksBeginAtLegalDesigns() {
        DesignSpaces x = space(2);
        weigh(x, 0, 0, 1);
        x.limit(0, true, 0);
        fails(ARGUMENT, () -> x.walk(1, 1));
        is(x.walk(0, 1), 0);
        x.limit(0, true, 1);
        is(x.walk(1, 1), 0);
    }

    @Says(text = "the COST is the sum of its four numbers")
    static void costIsTheSumOfFourNumbers() {
        for (int n = 0; n < 4; n++) {
            DesignSpaces x = space(2);
            for (int m = 0; m < 4; m++) {
                weigh(x, m, 0, m == n ? -3 : 1);
            }
            // both cost 0, so that each step is gone
            is(x.walk(0, 6), 0);
            is(x.count(8), 6);
            is(x.lowest(), 0);
            x.term(n, 0, 1, NONE, 0, 1);
            is(x.walk(0, 6), 0);
            is(x.count(8), 0);
            x.term((n + 1) % 4, 0, 1, NONE, 0, -2);
            is(x.walk(0, 6), 1);
            is(x.count(8), 1);
            is(x.lowest(), 1);
        }
    }

    @Says(text = "Each step: x becomes 1103515245 * x + 12345 (its lowest 31 bits)")
    static void drawsWrapAroundAt31Bits() {
        for (int seed : new int[] {0, 1, 2, MAX, MAX - 1, MIN, -1, 1 << 30}) {
            DesignSpaces x = new DesignSpaces(seed);
            x.choice(6);
            Draws draws = new Draws(seed);
            int at = 0;
            for (int i = 0; i < 400; i++) {
                int due = otherOf(at, draws.next() % 5);
                at = x.walk(at, 1);
                is(at, due);
            }
        }
    }

    @Says(text = "Each step: x becomes 1103515245 * x + 12345 (its lowest 31 bits)")
    static void manyStepsAreDrawnAsOneByOne() {
        DesignSpaces x = new DesignSpaces(99);
        x.choice(6);
        Draws draws = new Draws(99);
        int at = 3;
        for (int steps : new int[] {1000, 1, 999, 2}) {
            int due = at;
            for (int i = 0; i < steps; i++) {
                due = otherOf(due, draws.next() % 5);
            }
            at = x.walk(at, steps);
            is(at, due);
        }
    }

    @Says(text = "what is drawn, d, is x / 65536")
    static void leastAndGreatestDraws() {
        int[] firsts = {0, 65535, 65536, 131071, 131072, MAX - 65535, MAX - 65536, MAX};
        for (int first : firsts) {
            DesignSpaces x = new DesignSpaces(Draws.seedFor(first));
            x.choice(6);
            is(x.walk(0, 1), otherOf(0, first / 65536 % 5));
        }
    }

    @Says(text = "of the near designs (legal or not) number d modulo how many there are is looked at")
    static void illegalNearDesignsTakeTheirStepsToo() {
        // 0 and 3 alone are legal, and the other four are drawn all the same
        DesignSpaces x = new DesignSpaces(5);
        x.choice(6);
        weigh(x, 2, 0, 1, 1, 0, 1, 1);
        x.limit(2, true, 0);
        Draws draws = new Draws(5);
        int at = 0;
        int gone = 0;
        for (int i = 0; i < 60; i++) {
            int other = otherOf(at, draws.next() % 5);
            int due = other == 0 || other == 3 ? other : at;
            gone += due == at ? 0 : 1;
            at = x.walk(at, 1);
            is(at, due);
            is(x.count(8), due == other ? 1 : 0);
        }
        is(gone > 0 && gone < 60, true);
    }

    @Says(text = "of the near designs (legal or not) number d modulo how many there are is looked at")
    static void nearDesignsOfAllChoicesAreDrawn() {
        DesignSpaces x = new DesignSpaces(77);
        x.choice(2);
        x.choice(3);
        x.choice(4);
        Draws draws = new Draws(77);
        int at = 0;
        for (int i = 0; i < 200; i++) {
            int due = x.near(at, draws.next() % 6);
            at = x.walk(at, 1);
            is(at, due);
        }
    }

    @Says(text = "it is gone to, when it is legal and its cost is not above that of the one at hand plus the SLACK")
    static void costJustAtTheSlackIsGoneTo() {
        DesignSpaces x = space(2);
        weigh(x, 0, 10, 13);
        int[] slacks = {0, 2, 3, 4};
        for (int slack : slacks) {
            x.slack(slack);
            is(x.walk(0, 1), slack >= 3 ? 1 : 0);
            is(x.walk(1, 1), 0);
        }
        // the one at hand counts, not the one where the walk began: 0, 3, 6 by steps of 3
        DesignSpaces y = new DesignSpaces(1);
        y.choice(3);
        weigh(y, 0, 0, 3, 6);
        y.slack(3);
        y.walk(0, 1000);
        is(y.lowest(), 0);
        boolean seen = false;
        for (int i = 0; i < 40 && !seen; i++) {
            seen = y.walk(0, 1 + i) == 2;
        }
        is(seen, true);
    }

    @Says(text = "it is gone to, when it is legal and its cost is not above that of the one at hand plus the SLACK")
    static void greatestSlackDoesNotWrapAround() {
        DesignSpaces x = space(2);
        for (int i = 0; i < 50; i++) {
            x.term(i % 4, 0, 0, NONE, 0, 1000000);
            x.term(i % 4, 0, 1, NONE, 0, -1000000);
        }
        x.slack(MAX);
        is(x.walk(0, 1), 1);
        is(x.walk(1, 1), 0);
        is(x.walk(0, 1000), 0);
        is(x.count(8), 1000);
        is(x.lowest(), 1);
        x.slack(100000000);
        is(x.walk(1, 1), 0);
        x.slack(99999999);
        is(x.walk(1, 1), 1);
    }

    // ---- Terms: what matters, sweeps

    @Says(text = "A choice MATTERS for a number by the greatest difference of it between two legal designs that differ in that choice alone")
    static void greatestDifferenceAlongOneChoice() {
        DesignSpaces x = space(3, 2);
        weigh(x, 0, 5, -4, 1);
        x.term(0, 1, 1, NONE, 0, 1000);
        is(x.matters(0, 0), 9L);
        is(x.matters(1, 0), 1000L);
        // without 1 along the first choice 5 and 1 are left
        weigh(x, 1, 0, 1, 0);
        x.limit(1, true, 0);
        is(x.matters(0, 0), 4L);
        is(x.matters(0, 1), 0L);
    }

    @Says(text = "A choice MATTERS for a number by the greatest difference of it between two legal designs that differ in that choice alone")
    static void differencesOfTheFirstAndTheLastDesigns() {
        DesignSpaces x = space(2, 2, 2);
        x.term(3, 0, 0, 1, 0, 7);
        is(x.matters(0, 3) + " " + x.matters(1, 3) + " " + x.matters(2, 3), "7 7 0");
        x.term(3, 1, 1, 2, 1, -11);
        is(x.matters(0, 3) + " " + x.matters(1, 3) + " " + x.matters(2, 3), "7 18 11");
    }

    @Says(text = "(0 without any)")
    static void nothingMattersWithoutTwoThatAreLegal() {
        DesignSpaces x = space(2, 2);
        weigh(x, 0, 0, 50);
        x.term(0, 1, 1, NONE, 0, 9);
        x.rule(0, 0, 1, 1);
        x.rule(0, 1, 1, 0);
        // 0 and 3 are legal, and differ in both choices
        is(legalOnes(x), "1001");
        is(x.matters(0, 0), 0L);
        is(x.matters(1, 0), 0L);
        x.limit(0, true, -1);
        is(legalOnes(x), "0000");
        is(x.matters(0, 0), 0L);
        // one alone below 0 has no difference from anything
        DesignSpaces y = space(2);
        weigh(y, 0, -5, 1);
        y.limit(0, true, 0);
        is(y.matters(0, 0), 0L);
    }

    @Says(text = "A SWEEP goes through designs from where it was (0 at first), as many as told, and counts the legal ones")
    static void sweepsGoOnWhereTheyWere() {
        DesignSpaces x = space(2, 5);
        x.rule(0, 0, 1, 1);
        is(x.count(6), 0);
        is(x.count(7), 0);
        is(x.sweep(1), 1);
        is(x.count(6), 1);
        is(x.sweep(3), 2);
        is(x.count(6), 4);
        x.walk(0, 3);
        x.best(0);
        x.undominated();
        is(x.count(6), 4);
        is(x.sweep(5), 5);
        is(x.count(6), 9);
        is(x.count(7), 8);
    }

    @Says(text = "behind the last one it ends")
    static void sweepsEndBehindTheLastDesign() {
        DesignSpaces x = space(2, 2);
        is(x.sweep(3), 3);
        is(x.count(6), 3);
        is(x.sweep(1), 1);
        is(x.count(6), NONE);
        fails(STATE, () -> x.sweep(1));
        DesignSpaces y = space(2, 2);
        is(y.sweep(3), 3);
        is(y.sweep(3), 1);
        is(y.count(6), NONE);
        is(y.count(7), 4);
        fails(STATE, () -> y.sweep(3));
    }

    // ---- Terms: exceptions, what is told newly, constants

    @Says(text = "Of several exceptions the first one told is thrown")
    static void firstExceptionOfChoice() {
        refused(ARGUMENT, () -> space(2, 2, 2, 2, 2, 2, 2, 2), x -> x.choice(1));
        refused(ARGUMENT, () -> space(4, 4, 4, 4, 4, 4), x -> x.choice(7));
    }

    private static DesignSpaces withAllTermsAndRules() {
        DesignSpaces x = space(2, 3);
        for (int i = 0; i < 100; i++) {
            x.term(0, 0, 0, NONE, 0, 1);
        }
        for (int i = 0; i < 40; i++) {
            x.rule(0, 0, 1, 0);
        }
        return x;
    }

    @Says(text = "Of several exceptions the first one told is thrown")
    static void firstExceptionOfTerm() {
        refused(BOUNDS, TermsTest::withAllTermsAndRules, x -> x.term(4, 0, 0, 0, 0, 1000001));
        refused(BOUNDS, TermsTest::withAllTermsAndRules, x -> x.term(0, 0, 0, 2, 0, 1));
        refused(ARGUMENT, TermsTest::withAllTermsAndRules, x -> x.term(0, 0, 0, 0, 0, 1));
        refused(ARGUMENT, TermsTest::withAllTermsAndRules, x -> x.term(0, 0, 0, NONE, 0, -1000001));
        refused(UNSUPPORTED, TermsTest::withAllTermsAndRules, x -> x.term(0, 0, 0, NONE, 0, 1));
        refused(BOUNDS, Sentences::used, x -> x.term(0, 0, 0, 0, 2, 1));
        refused(BOUNDS, Sentences::used, x -> x.term(0, 0, 2, 0, 0, 1));
        refused(BOUNDS, Sentences::used, x -> x.term(0, 2, 0, 2, 0, 1));
        refused(BOUNDS, Sentences::used, x -> x.term(0, NONE, 0, NONE, 0, 1));
        refused(BOUNDS, Sentences::used, x -> x.term(0, 0, 2, NONE, 0, 1000001));
    }

    @Says(text = "Of several exceptions the first one told is thrown")
    static void firstExceptionOfRule() {
        refused(BOUNDS, TermsTest::withAllTermsAndRules, x -> x.rule(0, 0, 0, 2));
        refused(BOUNDS, TermsTest::withAllTermsAndRules, x -> x.rule(2, 0, 2, 0));
        refused(BOUNDS, TermsTest::withAllTermsAndRules, x -> x.rule(0, 0, 1, 3));
        refused(ARGUMENT, TermsTest::withAllTermsAndRules, x -> x.rule(1, 0, 1, 0));
        refused(UNSUPPORTED, TermsTest::withAllTermsAndRules, x -> x.rule(1, 0, 0, 0));
        refused(BOUNDS, Sentences::used, x -> x.rule(NONE, 0, NONE, 0));
    }

    @Says(text = "Of several exceptions the first one told is thrown")
    static void firstExceptionOfBeats() {
        refused(BOUNDS, Sentences::used, x -> x.beats(5, 6));
        refused(BOUNDS, Sentences::used, x -> x.beats(-1, 5));
    }

    private static DesignSpaces withoutLegalOnes() {
        DesignSpaces x = new DesignSpaces(1);
        x.limit(0, true, -1);
        return x;
    }

    @Says(text = "Of several exceptions the first one told is thrown")
    static void firstExceptionOfWalk() {
        refused(BOUNDS, () -> new DesignSpaces(1), x -> x.walk(1, 0));
        refused(ARGUMENT, () -> new DesignSpaces(1), x -> x.walk(0, 0));
        refused(ARGUMENT, () -> new DesignSpaces(1), x -> x.walk(0, 1001));
        refused(ARGUMENT, TermsTest::withoutLegalOnes, x -> x.walk(0, 1));
        refused(STATE, () -> new DesignSpaces(1), x -> x.walk(0, 1));
        refused(BOUNDS, Sentences::used, x -> x.walk(6, 0));
    }

    @Says(text = "Of several exceptions the first one told is thrown")
    static void firstExceptionOfSweep() {
        DesignSpaces x = new DesignSpaces(1);
        x.sweep(1);
        fails(ARGUMENT, () -> x.sweep(0));
        fails(ARGUMENT, () -> x.sweep(5001));
        fails(STATE, () -> x.sweep(1));
        fails(STATE, () -> x.sweep(5000));
    }

    @Says(text = "What is told newly (choices, terms, rules, limits) counts from then on")
    static void whatIsToldCountsFromThenOn() {
        DesignSpaces x = space(2, 2);
        is(front(x), "4: 0 1 2 3");
        x.term(0, 0, 0, NONE, 0, 5);
        is(front(x) + " " + x.best(0) + " " + x.matters(0, 0), "2: 2 3 2 5");
        x.rule(0, 1, 1, 0);
        is(front(x) + " " + x.best(0) + " " + x.matters(0, 0), "1: 3 3 5");
        x.limit(0, true, 4);
        is(front(x) + " " + x.best(0) + " " + x.matters(0, 0), "1: 3 3 0");
        x.limit(0, false, 4);
        is(front(x) + " " + x.best(0) + " " + x.matters(0, 0), "1: 3 3 5");
        x.choice(2);
        is(front(x) + " " + x.best(0) + " " + x.matters(0, 0), "2: 6 7 6 5");
        is(numbers(x, 0), "5 5 5 5 0 0 0 0");
        is(legalOnes(x), "11110011");
        is(x.bound(0, 0, 1), 5);
        is(x.near(0, 2), 1);
    }

    @Says(text = "What is told newly (choices, terms, rules, limits) counts from then on")
    static void whatWasSweptIsNotCountedAnew() {
        DesignSpaces x = space(2, 2);
        is(x.sweep(2), 2);
        x.rule(0, 0, 1, 0);
        x.rule(0, 1, 1, 0);
        is(x.count(7), 2);
        is(x.sweep(2), 1);
        is(x.count(7), 3);
    }

    @Says(text = "a new choice begins the sweep anew")
    static void newChoiceBeginsTheSweepAnew() {
        DesignSpaces x = space(2, 2);
        x.sweep(3);
        x.choice(2);
        is(x.count(6), 0);
        is(x.count(7), 0);
        is(x.sweep(8), 8);
        is(x.count(6), NONE);
        // at its end, too
        x.choice(3);
        is(x.count(6), 0);
        is(x.sweep(5000), 24);
        is(x.count(7), 24);
        // and what is refused does not
        fails(ARGUMENT, () -> x.choice(7));
        is(x.count(6), NONE);
        is(x.count(7), 24);
        // before the first choice the one design can be swept
        DesignSpaces y = new DesignSpaces(1);
        is(y.sweep(1), 1);
        is(y.choice(2), 0);
        is(y.count(6), 0);
        is(y.sweep(1), 1);
        is(y.count(6), 1);
    }

    @Says(text = "`NONE = -1`: Nothing there")
    static void noneIsMinusOne() {
        is(DesignSpaces.NONE, -1);
        DesignSpaces x = new DesignSpaces(1);
        is(x.lowest(), -1);
        is(x.count(9), -1);
        x.sweep(1);
        is(x.count(6), -1);
        x.limit(0, true, -1);
        is(x.best(0), -1);
        x.choice(2);
        is(x.term(0, 0, 0, -1, 5, 1), 1);
    }

    public static void main(String[] args) throws Exception {
        runAll(TermsTest.class, List.of("What it is", "Terms"));
    }
}
