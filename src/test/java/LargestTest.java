import java.lang.management.ManagementFactory;

/** Spaces of 4096 designs: answers that can be told by thought, in long runs of calls that stay in their room. */
public final class LargestTest {
    private static final int NONE = DesignSpaces.NONE;
    /** The room holds some 7.3 million elements; at four bytes each this is a small part of it. */
    private static final long MOST_BYTES = 200000;
    /** What measuring itself may use. */
    private static final long SPARE_BYTES = 1000;
    private static int wrong = 0;

    private static void due(String call, long got, long want) {
        if (got != want) {
            wrong++;
            System.out.println(call + " answered " + got + ", due is " + want);
        }
    }

    private static DesignSpaces largest() {
        DesignSpaces x = new DesignSpaces(-1);
        for (int c = 0; c < 6; c++) {
            x.choice(4);
        }
        return x;
    }

    /** Number 0 becomes the design's own number, number 1 what is left to 0: none beats another. */
    private static void opposeNumbers(DesignSpaces x) {
        int place = 1024;
        for (int c = 0; c < 6; c++) {
            for (int v = 1; v < 4; v++) {
                x.term(0, c, v, NONE, 0, v * place);
                x.term(1, c, v, NONE, 0, -v * place);
            }
            place /= 4;
        }
    }

    private static void allUndominated() {
        DesignSpaces x = largest();
        due("undominated() without terms", x.undominated(), 4096);
        opposeNumbers(x);
        due("number(4095, 0)", x.number(4095, 0), 4095);
        due("number(1234, 1)", x.number(1234, 1), -1234);
        for (int i = 0; i < 100; i++) {
            x.limit(0, true, 40 * i);
            due("undominated() with limit " + 40 * i, x.undominated(), 40 * i + 1);
            due("at(" + 40 * i + ")", x.at(40 * i), 40 * i);
        }
        x.limit(0, false, 0);
        due("undominated()", x.undominated(), 4096);
        due("best(0)", x.best(0), 0);
        due("looked() for best(0)", x.looked(), 1 + 6 * 4);
        due("best(1)", x.best(1), 4095);
        due("looked() for best(1)", x.looked(), 1 + 4 + 16 + 64 + 256 + 1024 + 4096);
        due("matters(0, 0)", x.matters(0, 0), 3072);
        due("matters(5, 1)", x.matters(5, 1), 3);
        due("sweep(5000)", x.sweep(5000), 4096);
        due("count(6)", x.count(6), NONE);
    }

    /** Limits that only whole rows pass: each of the 5461 rows is looked at. */
    private static void nothingLegal() {
        DesignSpaces x = largest();
        for (int v = 0; v < 4; v++) {
            x.term(0, 5, v, NONE, 0, 1);
        }
        x.limit(0, true, 0);
        due("best(3)", x.best(3), NONE);
        due("looked()", x.looked(), 5461);
        due("undominated()", x.undominated(), 0);
        due("sweep(4096)", x.sweep(4096), 0);
        due("matters(5, 0)", x.matters(5, 0), 0);
    }

    /** Eight choices, the small ones last, have the most rows of all: each one is looked at, and the last is the best. */
    private static void mostRows() {
        DesignSpaces x = new DesignSpaces(1);
        int place = 4096;
        for (int c = 0; c < 8; c++) {
            int values = c < 4 ? 4 : 2;
            x.choice(values);
            place /= values;
            for (int v = 1; v < values; v++) {
                x.term(2, c, v, NONE, 0, -v * place);
            }
        }
        int rows = 1 + 4 + 16 + 64 + 256 + 512 + 1024 + 2048 + 4096;
        due("best(2) of the most rows", x.best(2), 4095);
        due("looked() of the most rows", x.looked(), rows);
        x.limit(2, true, -4096);
        due("best(2) with no legal ones", x.best(2), NONE);
        // the bound counts all three terms of a choice of four values until it is set: rows of the last values go four deep
        due("looked() with no legal ones", x.looked(), 1 + 4 * 4);
        x.limit(2, true, -4095);
        due("best(3) with the last one legal alone", x.best(3), 4095);
        due("looked() along the last ones", x.looked(), 1 + 4 * 4 + 4 * 2);
    }

    /** Any number may have all 100 terms, and what stood before a choice stays right behind it, up to 4096 designs. */
    private static void fullBook() {
        for (int number = 0; number < 4; number++) {
            DesignSpaces x = new DesignSpaces(0);
            x.choice(4);
            x.choice(4);
            for (int i = 0; i < 100; i++) {
                due("term " + i, x.term(number, 0, i % 4, i % 2 == 0 ? NONE : 1, i / 4 % 4, i + 1), i + 1);
            }
            for (int i = 0; i < 40; i++) {
                due("rule " + i, x.rule(0, i % 4, 1, (i + 1) % 4), i + 1);
            }
            for (int c = 2; c < 6; c++) {
                checkFullBook(x, number);
                x.choice(4);
            }
            checkFullBook(x, number);
        }
    }

    private static void checkFullBook(DesignSpaces x, int number) {
        int designs = x.count(1);
        int part = designs / 16;
        long least = Long.MAX_VALUE;
        int first = NONE;
        for (int design = 0; design < designs; design += designs > 256 ? 37 : 1) {
            int sum = sumInFullBook(design / part);
            boolean legal = (design / part / 4 + 1) % 4 != design / part % 4;
            due("number(" + design + ", " + number + ")", x.number(design, number), sum);
            due("number of another one", x.number(design, (number + 1) % 4), 0);
            due("bound of all set", x.bound(number, design, x.count(0)), sum);
            due("legal(" + design + ")", x.legal(design) ? 1 : 0, legal ? 1 : 0);
        }
        for (int pair = 0; pair < 16; pair++) {
            if ((pair / 4 + 1) % 4 != pair % 4 && sumInFullBook(pair) < least) {
                least = sumInFullBook(pair);
                first = pair * part;
            }
        }
        due("best(" + number + ") of " + designs, x.best(number), first);
        due("undominated() of " + designs, x.undominated(), part);
        due("at(0) of " + designs, x.at(0), first);
        due("at the last of " + designs, x.at(part - 1), first + part - 1);
    }

    private static int sumInFullBook(int pair) {
        int sum = 0;
        for (int i = 0; i < 100; i++) {
            if (i % 4 == pair / 4 && (i % 2 == 0 || i / 4 % 4 == pair % 4)) {
                sum += i + 1;
            }
        }
        return sum;
    }

    private static long bytesSoFar() {
        return ((com.sun.management.ThreadMXBean) ManagementFactory.getThreadMXBean())
            .getThreadAllocatedBytes(Thread.currentThread().getId());
    }

    private static void isAtMost(String what, long used, long most) {
        if (used > most) {
            wrong++;
            System.out.println(what + " used " + used + " bytes, more than " + most);
        }
    }

    /** The object alone takes room: a run's calls take none. The least of several runs, since the machine takes some, too. */
    private static void staysInItsRoom() {
        long forObject = Long.MAX_VALUE;
        long forCalls = Long.MAX_VALUE;
        for (int run = 0; run < 10; run++) {
            long before = bytesSoFar();
            DesignSpaces x = new DesignSpaces(run);
            long made = bytesSoFar();
            manyCalls(x);
            long after = bytesSoFar();
            forObject = Math.min(forObject, made - before);
            forCalls = Math.min(forCalls, after - made);
        }
        isAtMost("a new object", forObject, MOST_BYTES);
        isAtMost("a run of 495 calls", forCalls, SPARE_BYTES);
    }

    private static void manyCalls(DesignSpaces x) {
        for (int c = 0; c < 6; c++) {
            x.choice(4);
            x.undominated();
        }
        opposeNumbers(x);
        for (int i = 0; i < 40; i++) {
            x.rule(0, 1 + i % 3, 1 + i % 5, 1 + i % 3);
        }
        for (int i = 0; i < 40; i++) {
            x.limit(i % 4, i % 8 < 4, i);
            x.undominated();
            x.at(0);
            x.best(i % 4);
            x.walk(0, 1000);
            x.matters(i % 6, i % 4);
            x.bound(i % 4, i, i % 7);
            x.near(i, i % 18);
            x.beats(0, 0);
            x.sweep(10);
        }
        x.slack(3);
        x.lowest();
        x.looked();
        x.value(4095, 5);
        x.number(4095, 3);
        x.legal(4095);
        x.count(4);
    }

    public static void main(String[] args) {
        allUndominated();
        nothingLegal();
        mostRows();
        fullBook();
        staysInItsRoom();
        System.out.println("LargestTest: " + wrong + " wrong");
        if (wrong != 0) {
            System.exit(1);
        }
    }
}
