import java.math.BigInteger;
import java.util.ArrayList;
import java.util.List;

/** The sentences of promises 18 to 26: marks, rules, what is cut, tours, free days, counts, the digest. */
final class TourBoundaries {
    private static final int NONE = Boundaries.NONE;
    private static final int BAD = Boundaries.BAD;
    private static final int NO = Boundaries.NO;
    private static final int FULL = Boundaries.FULL;
    private static final int MIN = Boundaries.MIN;
    private static final int MAX = Boundaries.MAX;

    private final Boundaries b;

    private TourBoundaries(Boundaries b) {
        this.b = b;
    }

    static void all(Boundaries b) {
        TourBoundaries tests = new TourBoundaries(b);
        tests.mark();
        tests.rule();
        tests.cut();
        tests.fit();
        tests.tour();
        tests.town();
        tests.free();
        tests.count();
        tests.digest();
    }

    // ---- mark

    private void mark() {
        b.of(18, "MARKS of a LINE (0 .. 255): what they were");
        for (int line : new int[] {0, 1, 98, 99}) {
            b.due("mark(" + line + ", 255), the first time", b.x.mark(line, 255), 0);
            b.due("mark(" + line + ", 128)", b.x.mark(line, 128), 255);
            b.due("mark(" + line + ", 0)", b.x.mark(line, 0), 128);
            b.due("mark(" + line + ", 1)", b.x.mark(line, 1), 0);
            b.due("mark(" + line + ", 1), the same", b.x.mark(line, 1), 1);
        }
        b.due("mark(2, 0), another LINE", b.x.mark(2, 0), 0);

        b.of(18, "BAD");
        b.taken(0, 99, "mark(line, 1)", (x, line) -> x.mark(line, 1));
        b.taken(0, 255, "mark(0, marks)", (x, marks) -> x.mark(0, marks));
        b.x.mark(5, 200);
        b.refused(BAD, "mark(5, 256)", x -> x.mark(5, 256));
        b.due("mark(5, 0) behind a refusal", b.x.mark(5, 0), 200);
    }

    // ---- rule

    private void rule() {
        ruleNumber();
        ruleBad();
        ruleFromAboveTo();
        ruleFull();
    }

    private void ruleNumber() {
        b.of(19, "A RULE: its number");
        b.due("rule(0, 0, 0, 0), the least of all numbers", b.x.rule(0, 0, 0, 0), 0);
        b.due("rule(7, 255, 999, 999), the greatest", b.x.rule(7, 255, 999, 999), 1);
        b.due("rule(7, 255, 999, 999), once more", b.x.rule(7, 255, 999, 999), 2);
        b.due("rule(3, 1, 0, 999)", b.x.rule(3, 1, 0, 999), 3);
        b.due("clear() leaves RULES", b.x.clear(), 0);
        b.due("rule(3, 1, 0, 999) behind clear", b.x.rule(3, 1, 0, 999), 4);
    }

    private void ruleBad() {
        b.of(19, "BAD");
        b.taken(0, 7, "rule(town, 1, 2, 3)", (x, town) -> x.rule(town, 1, 2, 3));
        b.taken(0, 255, "rule(0, marks, 2, 3)", (x, marks) -> x.rule(0, marks, 2, 3));
        b.taken(0, 999, "rule(0, 1, from, 999)", (x, from) -> x.rule(0, 1, from, 999));
        b.taken(0, 999, "rule(0, 1, 0, to)", (x, to) -> x.rule(0, 1, 0, to));
    }

    private void ruleFromAboveTo() {
        b.of(19, "BAD: also from above to");
        b.taken(0, 500, "rule(0, 1, from, 500)", (x, from) -> x.rule(0, 1, from, 500));
        b.taken(500, 999, "rule(0, 1, 500, to)", (x, to) -> x.rule(0, 1, 500, to));
        b.taken(0, 0, "rule(0, 1, from, 0)", (x, from) -> x.rule(0, 1, from, 0));
        b.taken(999, 999, "rule(0, 1, 999, to)", (x, to) -> x.rule(0, 1, 999, to));
        b.refused(BAD, "rule(0, 1, 1000, 1000)", x -> x.rule(0, 1, 1000, 1000));
        b.refused(BAD, "rule(0, 1, -1, -1)", x -> x.rule(0, 1, -1, -1));
    }

    private void ruleFull() {
        b.of(19, "FULL");
        b.version(0, 1);
        b.x.mark(1, 1);
        for (int i = 0; i < 20; i++) {
            b.due("rule " + i, b.x.rule(i % 8, 1, 10 * i, 10 * i), i);
        }
        b.refused(FULL, "the 21st", x -> x.rule(0, 1, 2, 3));
        b.refused(FULL, "the 21st, the same as one that stands", x -> x.rule(0, 1, 0, 0));
        b.refused(BAD, "the 21st, of TOWN 8", x -> x.rule(8, 1, 2, 3));
        b.refused(BAD, "the 21st, of MARKS 256", x -> x.rule(0, 256, 2, 3));
        b.refused(BAD, "the 21st, from above to", x -> x.rule(0, 1, 3, 2));
        b.refused(BAD, "the 21st, to day 1000", x -> x.rule(0, 1, 3, 1000));
        b.due("the twentieth one counts", b.x.cut(0, 3, 190), 1);
    }

    // ---- cut

    private void cut() {
        cutHowMany();
        cutOfFullVersion();

        b.of(20, "BAD");
        b.taken(0, 7, "cut(version, 0, 5)", (x, version) -> x.cut(version, 0, 5));
        b.taken(0, 7, "cut(0, town, 5)", (x, town) -> x.cut(0, town, 5));
        b.taken(0, 999, "cut(0, 0, day)", (x, day) -> x.cut(0, 0, day));
    }

    private void cutHowMany() {
        b.of(20, "How many LINES of a VERSION are CUT");
        b.x.mark(5, 1);
        b.x.rule(0, 255, 0, 999);
        b.due("cut(0, 0, 0) without LINES", b.x.cut(0, 0, 0), 0);
        b.version(0, 6);
        b.due("cut(0, 0, 0), none", b.x.cut(0, 0, 0), 0);
        b.version(0, 6, 5, 6);
        b.due("cut(0, 0, 0), one of three", b.x.cut(0, 0, 0), 1);
        b.due("cut(0, 0, 999), one of three", b.x.cut(0, 0, 999), 1);
        b.isVersion(0, 6, 5, 6);
        b.x.mark(5, 0);
        b.due("cut(0, 0, 0), MARKS that went", b.x.cut(0, 0, 0), 0);
    }

    private void cutOfFullVersion() {
        b.of(20, "How many LINES of a VERSION are CUT");
        b.version(7, Boundaries.like(99, 40));
        b.x.mark(99, 128);
        b.x.rule(7, 128, 999, 999);
        b.due("cut(7, 7, 999), all of 40", b.x.cut(7, 7, 999), 40);
        b.due("cut(7, 7, 998)", b.x.cut(7, 7, 998), 0);
    }

    // ---- fit

    private void fit() {
        fitWithoutWhatIsCut();
        fitPerhapsItself();
        fitHowMany();

        b.of(21, "BAD");
        b.taken(0, 7, "fit(version, 0, 5, 2)", (x, version) -> x.fit(version, 0, 5, 2));
        b.taken(0, 7, "fit(0, town, 5, 2)", (x, town) -> x.fit(0, town, 5, 2));
        b.taken(0, 999, "fit(0, 0, day, 2)", (x, day) -> x.fit(0, 0, day, 2));
        b.taken(0, 7, "fit(0, 0, 5, to)", (x, to) -> x.fit(0, 0, 5, to));
        b.refused(BAD, "fit(8, 0, 5, 8)", x -> x.fit(8, 0, 5, 8));
    }

    private void fitWithoutWhatIsCut() {
        b.of(21, "VERSION to becomes a VERSION without what is CUT");
        b.version(0, 5, 6, 5, 5, 7, 5);
        b.version(1, 9, 9, 9, 9, 9, 9, 9, 9);
        b.x.mark(5, 1);
        b.x.mark(9, 1);
        b.x.rule(3, 1, 10, 20);
        b.due("fit(0, 3, 10, 1), on the first day", b.x.fit(0, 3, 10, 1), 2);
        b.isVersion(1, 6, 7);
        b.isVersion(0, 5, 6, 5, 5, 7, 5);
        b.due("fit(0, 3, 20, 2), on the last day", b.x.fit(0, 3, 20, 2), 2);
        b.isVersion(2, 6, 7);
        b.due("fit(0, 3, 9, 2), a day ahead", b.x.fit(0, 3, 9, 2), 6);
        b.isVersion(2, 5, 6, 5, 5, 7, 5);
        b.due("fit(0, 3, 21, 1), a day behind", b.x.fit(0, 3, 21, 1), 6);
        b.isVersion(1, 5, 6, 5, 5, 7, 5);
        b.due("fit(0, 4, 10, 1), in another TOWN", b.x.fit(0, 4, 10, 1), 6);
        b.due("take(1, 0)", b.x.take(1, 0), 5);
        b.isVersion(0, 5, 6, 5, 5, 7, 5);
    }

    private void fitPerhapsItself() {
        b.of(21, "(perhaps itself)");
        b.version(0, 5, 5, 6, 5, 7, 5);
        b.x.mark(5, 1);
        b.x.rule(0, 1, 0, 0);
        b.due("fit(0, 0, 1, 0), nothing CUT", b.x.fit(0, 0, 1, 0), 6);
        b.isVersion(0, 5, 5, 6, 5, 7, 5);
        b.due("fit(0, 0, 0, 0)", b.x.fit(0, 0, 0, 0), 2);
        b.isVersion(0, 6, 7);
        b.due("fit(0, 0, 0, 0) once more", b.x.fit(0, 0, 0, 0), 2);
        b.isVersion(0, 6, 7);
    }

    private void fitHowMany() {
        b.of(21, "how many LINES it has");
        b.x.mark(5, 1);
        b.x.rule(7, 1, 999, 999);
        b.due("fit(0, 7, 999, 1) without LINES", b.x.fit(0, 7, 999, 1), 0);
        b.version(6, Boundaries.like(5, 40));
        b.due("fit(6, 7, 998, 7), none of 40", b.x.fit(6, 7, 998, 7), 40);
        b.isVersion(7, Boundaries.like(5, 40));
        b.due("fit(6, 7, 999, 7), all of 40, into 40", b.x.fit(6, 7, 999, 7), 0);
        b.isVersion(7);
        b.due("fit(6, 7, 999, 6), all of 40, into itself", b.x.fit(6, 7, 999, 6), 0);
        b.isVersion(6);
    }

    // ---- tour

    private void tour() {
        tourOfTowns();
        tourRest();
        tourHowMany();
        tourBad();
        tourNo();
        tourRefusedLeavesTheLatest();
    }

    private void tourOfTowns() {
        b.of(22, "A TOUR of TOWNS (bits, 1 .. 255) from a day on");
        for (int town = 0; town < 8; town++) {
            b.due("tour(0, " + (1 << town) + ", 0, 0)", b.x.tour(0, 1 << town, 0, 0), 0);
            b.isTour(town);
        }
        b.due("tour(0, 255, 0, 0)", b.x.tour(0, 255, 0, 0), 0);
        b.isTour(0, 1, 2, 3, 4, 5, 6, 7);
        b.due("tour(0, 1, 999, 0), the last day", b.x.tour(0, 1, 999, 0), 0);
        b.isTour(0);
        b.due("tour(0, 254, 0, 20)", b.x.tour(0, 254, 0, 20), 0);
        b.isTour(1, 2, 3, 4, 5, 6, 7);
    }

    private void tourRest() {
        b.of(22, "with rest (0 .. 20) days between");
        b.version(0, 5);
        b.x.mark(5, 1);
        b.x.rule(0, 1, 100, 100);
        b.x.rule(1, 1, 101, 101);
        b.x.rule(0, 1, 121, 121);
        b.due("tour(0, 3, 100, 0), on days 100 and 101", b.x.tour(0, 3, 100, 0), 0);
        b.isTour(1, 0);
        b.due("tour(0, 3, 100, 20), on days 100 and 121", b.x.tour(0, 3, 100, 20), 1);
        b.isTour(0, 1);
        b.due("tour(0, 3, 100, 19), on days 100 and 120", b.x.tour(0, 3, 100, 19), 0);
        b.isTour(1, 0);
        b.due("tour(0, 3, 100, 1), on days 100 and 102", b.x.tour(0, 3, 100, 1), 0);
        b.isTour(1, 0);
        b.taken(0, 20, "tour(0, 3, 0, rest)", (x, rest) -> x.tour(0, 3, 0, rest));
        b.taken(0, 20, "tour(0, 1, 999, rest) of one TOWN", (x, rest) -> x.tour(0, 1, 999, rest));
    }

    private void tourHowMany() {
        b.of(22, "how many LINES are CUT");
        b.x.mark(5, 1);
        for (int town = 0; town < 8; town++) {
            b.x.rule(town, 1, 0, 999);
        }
        b.due("tour(0, 255, 0, 0) without LINES", b.x.tour(0, 255, 0, 0), 0);
        b.version(0, Boundaries.like(5, 40));
        b.due("tour(0, 255, 0, 0), all of 40 on eight days", b.x.tour(0, 255, 0, 0), 320);
        b.isTour(0, 1, 2, 3, 4, 5, 6, 7);
        b.due("tour(0, 128, 999, 0), all of 40 on one day", b.x.tour(0, 128, 999, 0), 40);
        b.due("tour(1, 255, 0, 20) without LINES", b.x.tour(1, 255, 0, 20), 0);
        b.isVersion(0, Boundaries.like(5, 40));
    }

    private void tourBad() {
        b.of(22, "BAD");
        b.taken(0, 7, "tour(version, 1, 0, 0)", (x, version) -> x.tour(version, 1, 0, 0));
        b.taken(1, 255, "tour(0, towns, 0, 0)", (x, towns) -> x.tour(0, towns, 0, 0));
        b.taken(0, 999, "tour(0, 1, day, 0)", (x, day) -> x.tour(0, 1, day, 0));
        b.taken(0, 20, "tour(0, 255, 0, rest)", (x, rest) -> x.tour(0, 255, 0, rest));
        // On day 999 these would be NO, if their numbers were as told: BAD comes first.
        b.refused(BAD, "tour(8, 255, 999, 0)", x -> x.tour(8, 255, 999, 0));
        b.refused(BAD, "tour(0, 256, 999, 0)", x -> x.tour(0, 256, 999, 0));
        b.refused(BAD, "tour(0, 511, 999, 0)", x -> x.tour(0, 511, 999, 0));
        b.refused(BAD, "tour(0, -1, 999, 0)", x -> x.tour(0, -1, 999, 0));
        b.refused(BAD, "tour(0, 255, 1000, 0)", x -> x.tour(0, 255, 1000, 0));
        for (int rest : new int[] {-1, 21, MIN, MAX}) {
            b.refused(BAD, "tour(0, 255, 999, " + rest + ")", x -> x.tour(0, 255, 999, rest));
        }
    }

    /** As many TOWNS, the rest, and the last day on which such a TOUR may begin. */
    private static final int[][] LAST_BEGINNINGS = {
        {2, 0, 998}, {2, 1, 997}, {2, 20, 978}, {3, 0, 997}, {3, 20, 957}, {8, 0, 992}, {8, 1, 985}, {8, 20, 852}
    };

    private void tourNo() {
        for (int[] last : LAST_BEGINNINGS) {
            b.of(22, "NO: it would end behind day 999");
            int towns = (1 << last[0]) - 1;
            int rest = last[1];
            int day = last[2];
            String name = last[0] + " TOWNS, " + rest + " days of rest, from day ";
            b.due(name + day, b.x.tour(0, towns, day, rest), 0);
            b.due(name + day + ": the last TOWN", b.x.town(last[0] - 1), last[0] - 1);
            b.due("tour(0, 128, 0, 0)", b.x.tour(0, 128, 0, 0), 0);
            b.refused(NO, name + (day + 1), x -> x.tour(0, towns, day + 1, rest));
            b.refused(NO, name + 999, x -> x.tour(0, towns, 999, rest));
            b.isTour(7);
        }
        tourEndsOnTheLastDay();
    }

    private void tourEndsOnTheLastDay() {
        b.of(22, "NO: it would end behind day 999");
        b.version(0, 5);
        b.x.mark(5, 1);
        b.x.rule(0, 1, 999, 999);
        b.x.rule(1, 1, 999, 999);
        b.due("tour(0, 3, 998, 0): day 999 counts", b.x.tour(0, 3, 998, 0), 1);
        b.isTour(0, 1);
        b.due("tour(0, 1, 999, 20): one TOWN, no rest", b.x.tour(0, 1, 999, 20), 1);
        b.isTour(0);
    }

    private void tourRefusedLeavesTheLatest() {
        b.of(22, "NO");
        b.refused(NO, "tour(0, 3, 999, 0) ahead of all that are found", x -> x.tour(0, 3, 999, 0));
        b.isTour();
        b.due("tour(0, 40, 0, 0)", b.x.tour(0, 40, 0, 0), 0);
        b.refused(NO, "tour(0, 3, 999, 0)", x -> x.tour(0, 3, 999, 0));
        b.refused(BAD, "tour(0, 0, 0, 0)", x -> x.tour(0, 0, 0, 0));
        b.isTour(3, 5);
    }

    // ---- town

    private void town() {
        b.of(23, "TOWN i of the latest TOUR that was found");
        b.x.tour(0, 255, 0, 0);
        b.isTour(0, 1, 2, 3, 4, 5, 6, 7);
        b.x.tour(7, 130, 999 - 21, 20);
        b.isTour(1, 7);
        b.version(0, 5);
        b.x.mark(5, 1);
        b.x.rule(1, 1, 0, 999);
        b.x.forget(0);
        b.x.clear();
        b.x.copy(0, 7);
        b.isTour(1, 7);
        b.x.tour(0, 64, 0, 0);
        b.isTour(6);

        b.of(23, "NONE: not so many");
        for (int i : new int[] {-1, 0, 1, 7, 8, MIN, MAX}) {
            b.due("town(" + i + ") ahead of all TOURS", b.x.town(i), NONE);
        }
        b.x.tour(0, 255, 0, 0);
        for (int i : new int[] {-1, -2, 8, 9, 40, 255, MIN, MAX}) {
            b.due("town(" + i + ") of eight", b.x.town(i), NONE);
        }
        b.x.tour(0, 1, 0, 0);
        for (int i : new int[] {-1, 1, 7, 8, MIN, MAX}) {
            b.due("town(" + i + ") of one", b.x.town(i), NONE);
        }
    }

    // ---- free

    private void free() {
        freeFirstDay();
        freeUpToTheLastDay();
        freeBehindTwentyRules();

        b.of(24, "BAD");
        b.taken(0, 7, "free(version, 0, 5)", (x, version) -> x.free(version, 0, 5));
        b.taken(0, 7, "free(0, town, 5)", (x, town) -> x.free(0, town, 5));
        b.taken(0, 999, "free(0, 0, day)", (x, day) -> x.free(0, 0, day));
    }

    private void freeFirstDay() {
        b.of(24, "The first day from a day on");
        b.due("free(0, 0, 0) without LINES", b.x.free(0, 0, 0), 0);
        b.version(0, 5, 6);
        b.due("free(0, 0, 999) without RULES", b.x.free(0, 0, 999), 999);
        b.x.mark(5, 1);
        b.x.mark(7, 2);
        b.x.rule(0, 1, 10, 20);
        b.x.rule(0, 1, 21, 21);
        b.x.rule(0, 2, 0, 999);
        b.x.rule(1, 1, 0, 999);
        int[][] days = {{0, 0}, {9, 9}, {10, 22}, {11, 22}, {20, 22}, {21, 22}, {22, 22}, {999, 999}};
        for (int[] day : days) {
            b.due("free(0, 0, " + day[0] + ")", b.x.free(0, 0, day[0]), day[1]);
        }
        b.due("free(3, 1, 0) without LINES", b.x.free(3, 1, 0), 0);
    }

    private void freeUpToTheLastDay() {
        b.of(24, "up to 999, on which nothing of a VERSION is CUT in a TOWN; NONE");
        b.version(0, 5);
        b.x.mark(5, 1);
        b.x.rule(0, 1, 0, 998);
        b.x.rule(1, 1, 0, 999);
        b.x.rule(2, 1, 999, 999);
        b.due("free(0, 0, 0): the last day alone", b.x.free(0, 0, 0), 999);
        b.due("free(0, 0, 999)", b.x.free(0, 0, 999), 999);
        b.due("free(0, 1, 0): none", b.x.free(0, 1, 0), NONE);
        b.due("free(0, 1, 999): none", b.x.free(0, 1, 999), NONE);
        b.due("free(0, 2, 998)", b.x.free(0, 2, 998), 998);
        b.due("free(0, 2, 999): none", b.x.free(0, 2, 999), NONE);
    }

    private void freeBehindTwentyRules() {
        b.of(24, "The first day from a day on, up to 999");
        b.version(0, 5);
        b.x.mark(5, 1);
        for (int i = 19; i >= 0; i--) {
            b.due("rule " + (19 - i), b.x.rule(4, 1, 50 * i, 50 * i + 49), 19 - i);
        }
        b.due("free(0, 4, 0): 20 RULES take all days", b.x.free(0, 4, 0), NONE);
        b.due("free(0, 5, 0)", b.x.free(0, 5, 0), 0);
        b.of(24, "The first day from a day on, up to 999");
        b.version(0, 5);
        b.x.mark(5, 1);
        for (int i = 19; i >= 0; i--) {
            b.x.rule(4, 1, 49 * i, 49 * i + 48);
        }
        b.due("free(0, 4, 0): behind 20 RULES", b.x.free(0, 4, 0), 980);
    }

    // ---- count

    private void count() {
        countOfFewest();
        countOfMost();

        b.of(25, "BAD");
        b.taken(0, 4, "count(what)", (x, what) -> x.count(what));
    }

    private void countOfFewest() {
        b.of(25, "How many: 0 LINES of all VERSIONS, 1 CONDITIONS, 2 things heard in all PERFORMANCES, "
            + "3 GAPS of these, 4 RULES");
        b.counts(0, 0, 0, 0, 0);
        b.version(7, 0);
        b.counts(1, 0, 0, 0, 0);
        b.x.condition(0, 0, 0);
        b.counts(1, 1, 0, 0, 0);
        b.performance(3, 0);
        b.counts(1, 1, 1, 0, 0);
        b.performance(0, NONE);
        b.counts(1, 1, 2, 1, 0);
        b.x.rule(0, 0, 0, 0);
        b.counts(1, 1, 2, 1, 1);
        b.x.forget(0);
        b.x.clear();
        b.x.take(7, 0);
        b.counts(0, 0, 1, 0, 1);
    }

    /** As much as there may be of everything, every number the greatest one. */
    private void fill() {
        b.version(0, Boundaries.like(99, 40));
        b.performance(0, Boundaries.like(NONE, 40));
        for (int v = 1; v < 8; v++) {
            b.x.copy(0, v);
        }
        for (int p = 1; p < 4; p++) {
            b.x.both(0, 0, p);
        }
        for (int i = 0; i < 12; i++) {
            b.x.condition(6, 99, 99);
        }
        for (int i = 0; i < 20; i++) {
            b.x.rule(7, 255, 999, 999);
        }
        for (int line = 0; line < 100; line++) {
            b.x.mark(line, 255);
        }
    }

    private void countOfMost() {
        b.of(25, "How many: 0 LINES of all VERSIONS, 1 CONDITIONS, 2 things heard in all PERFORMANCES, "
            + "3 GAPS of these, 4 RULES");
        fill();
        b.counts(320, 12, 160, 160, 20);
        b.due("hear(3, 0) of 40", b.x.hear(3, 0), FULL);
        b.counts(320, 12, 160, 160, 20);
        b.x.forget(3);
        b.performance(3, Boundaries.like(0, 40));
        b.counts(320, 12, 160, 120, 20);
    }

    // ---- digest

    private static final BigInteger WRAPS_AT = BigInteger.ONE.shiftLeft(64);

    private static long mixed(List<Integer> values) {
        BigInteger h = BigInteger.valueOf(181);
        for (int v : values) {
            h = h.multiply(BigInteger.valueOf(31)).add(BigInteger.valueOf(v)).mod(WRAPS_AT);
        }
        return h.longValue();
    }

    private static void add(List<Integer> values, int... more) {
        for (int v : more) {
            values.add(v);
        }
    }

    private void digest() {
        digestOfNewObject();
        digestOfFullObject();
        digestOrder();
        digestOfWhatDiffers();
    }

    private void digestOfNewObject() {
        b.of(26, "h = 181; then h = 31 h + v for each v");
        List<Integer> values = new ArrayList<>();
        add(values, new int[5 + 8 + 4 + 100]);
        b.due("digest()", b.x.digest(), mixed(values));
        b.due("digest() once more", b.x.digest(), mixed(values));
    }

    private void digestOfFullObject() {
        b.of(26, "then h = 31 h + v for each v: count(0) to count(4)");
        fill();
        List<Integer> values = new ArrayList<>();
        add(values, 320, 12, 160, 160, 20);
        for (int v = 0; v < 8; v++) {
            add(values, 40);
            add(values, Boundaries.like(99, 40));
        }
        for (int p = 0; p < 4; p++) {
            add(values, 40);
            add(values, Boundaries.like(NONE, 40));
        }
        add(values, Boundaries.like(255, 100));
        for (int i = 0; i < 20; i++) {
            add(values, 7, 255, 999, 999);
        }
        for (int i = 0; i < 12; i++) {
            add(values, 6, 99, 99);
        }
        b.due("digest() of a full object, the sum wraps around", b.x.digest(), mixed(values));
    }

    private void digestOrder() {
        b.of(26, "of VERSIONS how many LINES, LINES; of PERFORMANCES how many things, these; MARKS of all LINES; "
            + "of RULES TOWN, MARKS, from, to; of CONDITIONS SORT, x, y");
        b.x = Boundaries.someOfAll();
        List<Integer> values = new ArrayList<>();
        add(values, 9, 2, 7, 2, 2);
        add(values, 3, 1, 2, 3, 4, 2, 3, 4, 2, 0, 0, 0, 0, 0, 2, 99, 0);
        add(values, 3, 1, NONE, 3, 0, 1, 5, 3, 0, NONE, 99);
        int[] marks = new int[100];
        marks[1] = 1;
        marks[99] = 2;
        add(values, marks);
        add(values, 0, 1, 5, 9, 7, 2, 0, 999);
        add(values, 0, 4, 0, 4, 1, 0);
        b.due("digest() with some of all", b.x.digest(), mixed(values));
        b.x.tour(0, 3, 0, 0);
        b.due("digest() behind another TOUR, which is none of these", b.x.digest(), mixed(values));
    }

    private void digestOfWhatDiffers() {
        b.of(26, "for each v");
        long before = b.x.digest();
        b.x.put(0, 0, 0);
        check("put", before);
        b.x.take(0, 0);
        b.due("digest() behind take", b.x.digest(), before);
        b.x.hear(3, NONE);
        check("hear", before);
        b.x.forget(3);
        b.due("digest() behind forget", b.x.digest(), before);
        b.x.condition(0, 0, 0);
        check("condition", before);
        b.x.clear();
        b.due("digest() behind clear", b.x.digest(), before);
        b.x.mark(99, 1);
        check("mark", before);
        b.x.mark(99, 0);
        b.due("digest() behind mark", b.x.digest(), before);
        b.x.rule(0, 0, 0, 0);
        check("rule", before);
    }

    private void check(String call, long before) {
        b.check.holds("Promise 26, \"for each v\": digest() behind " + call + " is another one", b.x.digest() != before);
    }
}
