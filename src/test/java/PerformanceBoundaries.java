/** The sentences of promises 8 to 17: conditions, breaks, what is heard, judgements, both, may. */
final class PerformanceBoundaries {
    private static final int NONE = Boundaries.NONE;
    private static final int BAD = Boundaries.BAD;
    private static final int NO = Boundaries.NO;
    private static final int FULL = Boundaries.FULL;
    private static final int MIN = Boundaries.MIN;
    private static final int MAX = Boundaries.MAX;

    private final Boundaries b;

    private PerformanceBoundaries(Boundaries b) {
        this.b = b;
    }

    static void all(Boundaries b) {
        PerformanceBoundaries tests = new PerformanceBoundaries(b);
        tests.condition();
        tests.clear();
        tests.breaks();
        tests.hear();
        tests.forget();
        tests.heard();
        tests.judge();
        tests.verdict();
        tests.both();
        tests.may();
    }

    // ---- condition

    private void condition() {
        conditionNumber();
        conditionBad();
        conditionBadY();
        conditionFull();
    }

    private void conditionNumber() {
        b.of(8, "A CONDITION: its number");
        for (int sort = 0; sort <= 6; sort++) {
            b.due("condition(" + sort + ", 99, 0)", b.x.condition(sort, 99, 0), sort);
        }
        b.due("condition(0, 99, 0), once more the same", b.x.condition(0, 99, 0), 7);
        b.due("clear()", b.x.clear(), 8);
        b.due("the first one behind clear", b.x.condition(6, 0, 99), 0);
    }

    private void conditionBad() {
        b.of(8, "BAD");
        b.taken(0, 6, "condition(sort, 1, 2)", (x, sort) -> x.condition(sort, 1, 2));
        for (int sort = 0; sort <= 6; sort++) {
            int asked = sort;
            b.taken(0, 99, "condition(" + sort + ", x, 2)", (x, line) -> x.condition(asked, line, 2));
        }
    }

    private void conditionBadY() {
        b.of(8, "BAD");
        for (int sort = 0; sort <= 6; sort++) {
            int asked = sort;
            int last = sort == 1 ? 40 : 99;
            b.taken(0, last, "condition(" + sort + ", 1, y)", (x, y) -> x.condition(asked, 1, y));
        }
    }

    private void conditionFull() {
        b.of(8, "FULL");
        for (int i = 0; i < 12; i++) {
            b.due("condition " + i, b.x.condition(i % 7, i, i), i);
        }
        for (int sort = 0; sort <= 6; sort++) {
            int asked = sort;
            b.refused(FULL, "a thirteenth one of SORT " + sort, x -> x.condition(asked, 1, 1));
        }
        b.refused(BAD, "a thirteenth one of SORT 7", x -> x.condition(7, 1, 1));
        b.refused(BAD, "a thirteenth one with x 100", x -> x.condition(0, 100, 1));
        b.refused(BAD, "a thirteenth one with y 41", x -> x.condition(1, 1, 41));
        b.due("the twelfth one counts", b.x.judge(0, 11), 2);
        b.due("clear()", b.x.clear(), 12);
        b.due("the first one behind clear", b.x.condition(0, 0, 0), 0);
    }

    // ---- clear

    private void clear() {
        b.of(9, "All CONDITIONS go: how many");
        b.due("clear() of none", b.x.clear(), 0);
        b.x.condition(4, 1, 0);
        b.due("breaks(0)", b.x.breaks(0), 0);
        b.due("verdict(0)", b.x.verdict(0), 2);
        b.due("clear() of one", b.x.clear(), 1);
        b.due("breaks(0) behind clear", b.x.breaks(0), NONE);
        b.due("verdict(0) behind clear", b.x.verdict(0), 0);
        b.due("judge(0, 0) behind clear", b.x.judge(0, 0), BAD);
        b.due("count(1) behind clear", b.x.count(1), 0);
        b.due("digest() behind clear", b.x.digest(), new PlayReader().digest());
        for (int i = 0; i < 12; i++) {
            b.x.condition(4, 1, 0);
        }
        b.due("clear() of twelve", b.x.clear(), 12);
        b.due("clear() once more", b.x.clear(), 0);
        b.x = Boundaries.someOfAll();
        b.due("clear() of two", b.x.clear(), 2);
        b.counts(9, 0, 7, 2, 2);
        b.isTour(0, 7);
    }

    // ---- breaks

    private void breaks() {
        breaksTheFirst();
        breaksKeepsAll();
        breaksBad();
    }

    private void breaksTheFirst() {
        b.of(10, "The first CONDITION that a VERSION BREAKS");
        b.version(0, 5);
        for (int i = 0; i < 11; i++) {
            b.x.condition(0, 6, 0);
        }
        b.x.condition(0, 5, 0);
        b.due("breaks(0), the twelfth one", b.x.breaks(0), 11);
        b.version(7, 6, 5);
        b.due("breaks(7), the first one of all", b.x.breaks(7), 0);
        b.x.clear();
        b.x.condition(0, 6, 0);
        b.x.condition(4, 6, 0);
        b.x.condition(0, 5, 0);
        b.due("breaks(0), the second one of three", b.x.breaks(0), 1);
        b.due("breaks(1), without LINES", b.x.breaks(1), 1);
    }

    private void breaksKeepsAll() {
        b.of(10, "NONE: it KEEPS all");
        b.version(0, 5, 6);
        b.due("breaks(0), no CONDITIONS", b.x.breaks(0), NONE);
        for (int i = 0; i < 12; i++) {
            b.x.condition(4, 5 + i % 2, 0);
        }
        b.due("breaks(0), twelve", b.x.breaks(0), NONE);
        b.x.clear();
        b.x.condition(0, 5, 0);
        b.due("breaks(1), without LINES", b.x.breaks(1), NONE);
    }

    private void breaksBad() {
        b.of(10, "BAD");
        b.taken(0, 7, "breaks(version)", (x, version) -> x.breaks(version));
        for (int version : new int[] {-1, 8}) {
            b.refused(BAD, "breaks(" + version + ") by no CONDITIONS", x -> x.breaks(version));
        }
    }

    // ---- hear

    private void hear() {
        hearNext();
        hearBad();
        hearFull();
    }

    private void hearNext() {
        b.of(11, "What is heard next in a PERFORMANCE (NONE: a GAP): how many.");
        b.due("hear(0, NONE)", b.x.hear(0, NONE), 1);
        b.due("hear(0, 0)", b.x.hear(0, 0), 2);
        b.due("hear(0, NONE)", b.x.hear(0, NONE), 3);
        b.due("hear(0, NONE)", b.x.hear(0, NONE), 4);
        b.due("hear(0, 99)", b.x.hear(0, 99), 5);
        b.due("hear(3, 50)", b.x.hear(3, 50), 1);
        b.isPerformance(0, NONE, 0, NONE, NONE, 99);
        b.isPerformance(1);
        b.isPerformance(2);
        b.isPerformance(3, 50);
    }

    private void hearBad() {
        b.of(11, "BAD");
        b.taken(0, 3, "hear(performance, 1)", (x, performance) -> x.hear(performance, 1));
        b.taken(0, 3, "hear(performance, NONE)", (x, performance) -> x.hear(performance, NONE));
        b.taken(NONE, 99, "hear(0, line)", (x, line) -> x.hear(0, line));
    }

    private void hearFull() {
        b.of(11, "FULL: 40");
        b.performance(2, Boundaries.joined(Boundaries.like(NONE, 20), Boundaries.like(7, 19)));
        b.due("the fortieth thing", b.x.hear(2, 8), 40);
        for (int thing : new int[] {NONE, 0, 99}) {
            b.refused(FULL, "hear(2, " + thing + ") behind 40", x -> x.hear(2, thing));
        }
        for (int thing : new int[] {-2, 100, MIN, MAX}) {
            b.refused(BAD, "hear(2, " + thing + ") behind 40", x -> x.hear(2, thing));
        }
        b.due("heard(2, 39)", b.x.heard(2, 39), 8);
        b.due("heard(2, 40)", b.x.heard(2, 40), BAD);
        b.due("hear in another one", b.x.hear(1, 5), 1);
        b.due("forget(2)", b.x.forget(2), 40);
        b.due("hear(2, 5) behind forget", b.x.hear(2, 5), 1);
    }

    // ---- forget

    private void forget() {
        forgetNothingHeard();
        forgetHowMany();
        forgetBad();
    }

    private void forgetNothingHeard() {
        b.of(12, "Nothing is heard in it any more");
        b.performance(0, 1, NONE);
        b.performance(1, 2);
        b.x.forget(0);
        b.isPerformance(0);
        b.isPerformance(1, 2);
        b.due("count(2)", b.x.count(2), 1);
        b.due("count(3)", b.x.count(3), 0);
        b.x.condition(4, 1, 0);
        b.due("judge(0, 0): it is not said", b.x.judge(0, 0), 2);
        b.due("hear(0, 3)", b.x.hear(0, 3), 1);
        b.isPerformance(0, 3);
    }

    private void forgetHowMany() {
        b.of(12, "how many things were");
        b.due("forget(3) of nothing", b.x.forget(3), 0);
        b.performance(3, NONE);
        b.due("forget(3) of a GAP", b.x.forget(3), 1);
        b.performance(3, Boundaries.like(5, 40));
        b.due("forget(3) of 40", b.x.forget(3), 40);
        b.due("forget(3) once more", b.x.forget(3), 0);
    }

    private void forgetBad() {
        b.of(12, "BAD");
        b.taken(0, 3, "forget(performance)", (x, performance) -> x.forget(performance));
    }

    // ---- heard

    private void heard() {
        b.of(13, "What was heard at place i. (NONE: a GAP.)");
        b.performance(1, Boundaries.joined(Boundaries.joined(Boundaries.row(0, NONE), Boundaries.like(5, 37)), 99));
        b.due("heard(1, 0)", b.x.heard(1, 0), 0);
        b.due("heard(1, 1), a GAP", b.x.heard(1, 1), NONE);
        b.due("heard(1, 2)", b.x.heard(1, 2), 5);
        b.due("heard(1, 39)", b.x.heard(1, 39), 99);

        b.of(13, "BAD: also not so many");
        b.taken(0, 3, "heard(performance, 0)", (x, performance) -> x.heard(performance, 0));
        b.taken(0, 2, "heard(0, i) of three", (x, i) -> x.heard(0, i));
        for (int i : new int[] {-1, 0, 1, 39, 40, MIN, MAX}) {
            b.refused(BAD, "heard(0, " + i + ") of nothing", x -> x.heard(0, i));
        }
        b.performance(3, Boundaries.like(NONE, 40));
        b.due("heard(3, 39) of 40", b.x.heard(3, 39), NONE);
        b.refused(BAD, "heard(3, 40) of 40", x -> x.heard(3, 40));
    }

    // ---- judge

    private void judge() {
        judgeAnswers();
        judgeTheTwelfth();
        judgeBad();
    }

    private void judgeAnswers() {
        b.of(14, "A PERFORMANCE by a CONDITION: 0 KEPT, 1 a DOUBT, 2 a BREACH");
        b.x.condition(4, 5, 0);
        b.x.condition(0, 5, 0);
        int[][] heard = {{}, {NONE}, {5}, {6}, {NONE, 5, NONE}, {6, NONE}};
        int[] always = {2, 1, 0, 2, 0, 1};
        int[] never = {0, 1, 2, 0, 2, 1};
        for (int i = 0; i < heard.length; i++) {
            b.performance(3, heard[i]);
            b.due("ALWAYS, " + java.util.Arrays.toString(heard[i]), b.x.judge(3, 0), always[i]);
            b.due("NEVER, " + java.util.Arrays.toString(heard[i]), b.x.judge(3, 1), never[i]);
        }
    }

    private void judgeTheTwelfth() {
        b.of(14, "A PERFORMANCE by a CONDITION");
        for (int i = 0; i < 12; i++) {
            b.x.condition(4, i, 0);
        }
        b.performance(0, 11, NONE);
        b.performance(1, 0);
        b.due("judge(0, 11)", b.x.judge(0, 11), 0);
        b.due("judge(0, 0)", b.x.judge(0, 0), 1);
        b.due("judge(1, 0)", b.x.judge(1, 0), 0);
        b.due("judge(1, 11)", b.x.judge(1, 11), 2);
        b.refused(BAD, "judge(0, 12)", x -> x.judge(0, 12));
    }

    private void judgeBad() {
        b.of(14, "BAD");
        b.taken(0, 3, "judge(performance, 0)", (x, performance) -> x.judge(performance, 0));
        b.taken(0, 1, "judge(0, condition) of two", (x, condition) -> x.judge(0, condition));
        for (int condition : new int[] {-1, 0, 1, 11, 12, MIN, MAX}) {
            b.refused(BAD, "judge(0, " + condition + ") of none", x -> x.judge(0, condition));
        }
        b.x.condition(4, 1, 1);
        b.x.clear();
        b.refused(BAD, "judge(0, 0) of one that went", x -> x.judge(0, 0));
    }

    // ---- verdict

    private void verdict() {
        b.of(15, "By all: 2 if one is a BREACH, else 1 if one is a DOUBT, else 0");
        b.performance(0, 5, NONE);
        b.due("by none", b.x.verdict(0), 0);
        for (int i = 0; i < 11; i++) {
            b.x.condition(4, 5, 0);
        }
        b.due("by eleven that are KEPT", b.x.verdict(0), 0);
        b.x.condition(0, 6, 0);
        b.due("the twelfth one is a DOUBT", b.x.verdict(0), 1);
        b.x.clear();
        b.x.condition(0, 6, 0);
        b.due("one DOUBT alone", b.x.verdict(0), 1);
        b.x.condition(4, 6, 0);
        b.due("two DOUBTS, of which each row BREAKS one", b.x.verdict(0), 1);
        b.x.condition(0, 5, 0);
        b.x.condition(4, 5, 0);
        b.due("a BREACH between", b.x.verdict(0), 2);
        b.due("nothing heard", b.x.verdict(1), 2);
        b.x.clear();
        b.due("none again", b.x.verdict(0), 0);
        verdictByTheFirstAndTheLast();

        b.of(15, "BAD");
        b.taken(0, 3, "verdict(performance)", (x, performance) -> x.verdict(performance));
        for (int performance : new int[] {-1, 4}) {
            b.refused(BAD, "verdict(" + performance + ") by none", x -> x.verdict(performance));
        }
    }

    private void verdictByTheFirstAndTheLast() {
        for (int at : new int[] {0, 11}) {
            b.of(15, "2 if one is a BREACH");
            b.performance(0, 5);
            for (int i = 0; i < 12; i++) {
                b.x.condition(i == at ? 0 : 4, 5, 0);
            }
            b.due("the BREACH is number " + at, b.x.verdict(0), 2);
        }
    }

    // ---- both

    private void both() {
        bothBecomesIt();
        bothPerhapsOneOfBoth();
        bothHowManyQuarrels();
        bothBad();
        bothUnlikeMany();
    }

    private void bothBecomesIt() {
        b.of(16, "TWO EARS: PERFORMANCE to becomes it");
        b.performance(0, 1, NONE, 3, 4, NONE);
        b.performance(1, 1, 2, NONE, 5, NONE);
        b.performance(2, 9, 9, 9, 9, 9, 9, 9);
        b.due("both(0, 1, 2), from more", b.x.both(0, 1, 2), 1);
        b.isPerformance(2, 1, 2, 3, NONE, NONE);
        b.due("both(1, 0, 3), from nothing", b.x.both(1, 0, 3), 1);
        b.isPerformance(3, 1, 2, 3, NONE, NONE);
        b.isPerformance(0, 1, NONE, 3, 4, NONE);
        b.isPerformance(1, 1, 2, NONE, 5, NONE);
        b.due("forget(0)", b.x.forget(0), 5);
        b.due("forget(1)", b.x.forget(1), 5);
        b.isPerformance(3, 1, 2, 3, NONE, NONE);
        b.due("both(0, 1, 3) of nothing", b.x.both(0, 1, 3), 0);
        b.isPerformance(3);
    }

    private void bothPerhapsOneOfBoth() {
        b.of(16, "(perhaps one of both)");
        b.performance(0, 7, NONE, 8, 9);
        b.performance(1, NONE, 2, 8, 4);
        b.due("both(0, 1, 0)", b.x.both(0, 1, 0), 1);
        b.isPerformance(0, 7, 2, 8, NONE);
        b.isPerformance(1, NONE, 2, 8, 4);
        b.due("both(0, 1, 1)", b.x.both(0, 1, 1), 0);
        b.isPerformance(1, 7, 2, 8, 4);
        b.isPerformance(0, 7, 2, 8, NONE);
        b.due("both(0, 0, 0)", b.x.both(0, 0, 0), 0);
        b.isPerformance(0, 7, 2, 8, NONE);
        b.due("both(0, 0, 3)", b.x.both(0, 0, 3), 0);
        b.isPerformance(3, 7, 2, 8, NONE);
    }

    private void bothHowManyQuarrels() {
        b.of(16, "how many QUARRELS");
        b.due("both(0, 1, 2) of nothing", b.x.both(0, 1, 2), 0);
        b.performance(0, Boundaries.like(0, 40));
        b.performance(1, Boundaries.like(99, 40));
        b.due("both(0, 1, 2) of 40 that are unlike", b.x.both(0, 1, 2), 40);
        b.isPerformance(2, Boundaries.like(NONE, 40));
        b.due("both(2, 1, 3) of 40 GAPS", b.x.both(2, 1, 3), 0);
        b.isPerformance(3, Boundaries.like(99, 40));
        b.due("both(3, 1, 3) of 40 that are alike", b.x.both(3, 1, 3), 0);
        b.isPerformance(3, Boundaries.like(99, 40));
    }

    private void bothBad() {
        b.of(16, "BAD");
        b.taken(0, 3, "both(a, 0, 1)", (x, a) -> x.both(a, 0, 1));
        b.taken(0, 3, "both(0, b, 1)", (x, other) -> x.both(0, other, 1));
        b.taken(0, 3, "both(0, 0, to)", (x, to) -> x.both(0, 0, to));
        b.refused(BAD, "both(4, 4, 4)", x -> x.both(4, 4, 4));
    }

    private void bothUnlikeMany() {
        b.of(16, "NO: they have unlike many things");
        b.performance(0, 1, 2);
        b.performance(1, 1);
        b.performance(3, Boundaries.like(1, 40));
        int[][] unlike = {{0, 1, 2}, {1, 0, 2}, {0, 1, 0}, {0, 1, 1}, {1, 2, 3}, {2, 1, 1}, {3, 2, 2}, {3, 0, 0}};
        for (int[] n : unlike) {
            String name = "both(" + n[0] + ", " + n[1] + ", " + n[2] + ")";
            b.refused(NO, name, x -> x.both(n[0], n[1], n[2]));
        }
        b.due("hear(1, NONE)", b.x.hear(1, NONE), 2);
        b.due("both(0, 1, 3) of as many, whatever to has", b.x.both(0, 1, 3), 0);
        b.x.forget(1);
        for (int to : new int[] {-1, 4, MIN, MAX}) {
            b.refused(BAD, "both(0, 1, " + to + ") of unlike many", x -> x.both(0, 1, to));
        }
    }

    // ---- may

    private void may() {
        b.of(17, "Whether a VERSION may be what was heard, its GAPS standing for rows of it: 1, 0");
        mayBe(1, Boundaries.row());
        mayBe(0, Boundaries.row(), 1);
        mayBe(0, Boundaries.row(1));
        mayBe(1, Boundaries.row(NONE));
        mayBe(1, Boundaries.row(NONE), 1, 2, 3);
        mayBe(1, Boundaries.row(1, NONE, 2), 1, 2);
        mayBe(1, Boundaries.row(1, NONE, 2), 1, 3, 2, 2);
        mayBe(0, Boundaries.row(1, NONE, 2), 1, 2, 3);
        mayBe(0, Boundaries.row(1, NONE, 1), 1);
        mayBe(1, Boundaries.row(NONE, 1), 2, 1);
        mayBe(0, Boundaries.row(NONE, 1), 1, 2);
        mayBe(1, Boundaries.row(1, NONE), 1);
        mayBe(0, Boundaries.row(1, NONE), 2, 1);
        mayBe(1, Boundaries.row(NONE, 1, NONE, 1, 2), 1, 2, 1, 1, 2);
        mayBe(0, Boundaries.row(1, 2, 3), 1, 2);
        mayBe(0, Boundaries.row(1, 2), 1, 2, 3);
        mayOfFullRows();

        b.of(17, "BAD");
        b.taken(0, 3, "may(performance, 0)", (x, performance) -> x.may(performance, 0));
        b.taken(0, 7, "may(0, version)", (x, version) -> x.may(0, version));
        b.refused(BAD, "may(4, 8)", x -> x.may(4, 8));
    }

    private void mayOfFullRows() {
        int[] forty = Boundaries.joined(Boundaries.like(1, 39), 2);
        mayBe(1, forty, forty);
        mayBe(0, Boundaries.like(1, 39), Boundaries.like(1, 40));
        mayBe(0, Boundaries.like(1, 40), Boundaries.like(1, 39));
        mayBe(1, Boundaries.like(NONE, 40), forty);
        mayBe(1, Boundaries.like(NONE, 40));
        mayBe(1, Boundaries.joined(Boundaries.like(NONE, 39), 2), forty);
        mayBe(0, Boundaries.joined(Boundaries.like(NONE, 39), 1), forty);
    }

    private void mayBe(int want, int[] things, int... lines) {
        b.of(17, "its GAPS standing for rows of it");
        b.performance(3, things);
        b.version(7, lines);
        String what = java.util.Arrays.toString(things) + ", " + java.util.Arrays.toString(lines);
        b.due("may of " + what, b.x.may(3, 7), want);
    }
}
