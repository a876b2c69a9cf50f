import java.util.Arrays;

/** The sentences of the document's terms: versions and changes, conditions and performances, rules, tours, refusals. */
final class TermBoundaries {
    private static final int NONE = Boundaries.NONE;
    private static final int BAD = Boundaries.BAD;
    private static final int NO = Boundaries.NO;
    private static final int FULL = Boundaries.FULL;

    private static final int KEPT = 0;
    private static final int DOUBT = 1;
    private static final int BREACH = 2;

    private final Boundaries b;

    private TermBoundaries(Boundaries b) {
        this.b = b;
    }

    static void all(Boundaries b) {
        TermBoundaries tests = new TermBoundaries(b);
        tests.versions();
        tests.changes();
        tests.conditions();
        tests.performances();
        tests.marksAndRules();
        tests.tours();
        tests.twoEars();
        tests.refusals();
    }

    // ---- 1: VERSIONS

    private void versions() {
        b.ofTerms("VERSIONS 0 .. 7");
        for (int v = 0; v < 8; v++) {
            b.due("put(" + v + ", 0, " + v + ")", b.x.put(v, 0, v), 1);
        }
        for (int v = 0; v < 8; v++) {
            b.due("lineAt(" + v + ", 0)", b.x.lineAt(v, 0), v);
        }

        b.ofTerms("are rows of up to 40 LINES");
        b.version(0, Boundaries.like(1, 40));
        b.refused(FULL, "put(0, 40, 1)", x -> x.put(0, 40, 1));
        b.due("copy(0, 1)", b.x.copy(0, 1), 40);
        b.refused(FULL, "put(1, 40, 1)", x -> x.put(1, 40, 1));
        b.due("fit(0, 0, 0, 2)", b.x.fit(0, 0, 0, 2), 40);
        b.refused(FULL, "put(2, 40, 1)", x -> x.put(2, 40, 1));

        b.ofTerms("(numbers 0 .. 99)");
        b.taken(0, 99, "put(7, 1, line)", (x, line) -> x.put(7, 1, line));
        b.taken(0, 99, "condition(0, x, 1)", (x, line) -> x.condition(0, line, 1));
        b.taken(0, 99, "condition(2, 1, y)", (x, line) -> x.condition(2, 1, line));
        b.taken(0, 99, "mark(line, 1)", (x, line) -> x.mark(line, 1));

        b.ofTerms("none at first.");
        for (int v = 0; v < 8; v++) {
            b.isVersion(v);
        }
    }

    // ---- 1: DIFFERENCE and CHANGES

    private void changes() {
        b.ofTerms("DIFFERENCE of two: the fewest LINES that are taken out or put in (one each) "
            + "so that the one becomes the other one.");
        differ(0, Boundaries.row());
        differ(1, Boundaries.row(1));
        differ(0, Boundaries.row(1), 1);
        differ(2, Boundaries.row(1), 2);
        differ(1, Boundaries.row(1), 1, 1);
        differ(2, Boundaries.row(1, 2), 2, 1);
        differ(4, Boundaries.row(1, 2, 3), 3, 2, 1);
        differ(2, Boundaries.row(1, 2, 3), 1, 4, 3);
        differ(3, Boundaries.row(1, 2, 3), 0, 1, 2, 2, 3, 5);
        differ(1, Boundaries.like(1, 40), Boundaries.like(1, 39));
        differ(80, Boundaries.like(1, 40), Boundaries.like(2, 40));

        b.ofTerms("CHANGES: the row of steps, from both beginnings on");
        steps(Boundaries.row(1, 2), Boundaries.row(2, 3), 1, 0, 2);
        steps(Boundaries.row(2, 3), Boundaries.row(1, 2), 2, 0, 1);
        b.ofTerms("0 both go on by one (LINES alike)");
        steps(Boundaries.row(4, 5), Boundaries.row(4, 5), 0, 0);
        steps(Boundaries.like(4, 40), Boundaries.like(4, 40), new int[40]);
        b.ofTerms("1 the first one's LINE is taken out");
        steps(Boundaries.row(4, 5), Boundaries.row(), 1, 1);
        steps(Boundaries.row(4, 5), Boundaries.row(5), 1, 0);
        b.ofTerms("2 the second one's put in");
        steps(Boundaries.row(), Boundaries.row(4, 5), 2, 2);
        steps(Boundaries.row(5), Boundaries.row(4, 5), 2, 0);
        b.ofTerms("of all rows of steps with the fewest 1 and 2 the first (as rows of numbers).");
        steps(Boundaries.row(1), Boundaries.row(2), 1, 2);
        steps(Boundaries.row(1, 2), Boundaries.row(2, 1), 1, 0, 2);
        steps(Boundaries.row(1, 2), Boundaries.row(3, 4), 1, 1, 2, 2);
        steps(Boundaries.row(1, 1), Boundaries.row(1), 0, 1);
        steps(Boundaries.row(1), Boundaries.row(1, 1), 0, 2);
        steps(Boundaries.row(1, 2, 1), Boundaries.row(1), 0, 1, 1);
        steps(Boundaries.row(1, 2, 3), Boundaries.row(3, 1, 2), 2, 0, 0, 1);
        steps(Boundaries.row(1, 2, 3, 1), Boundaries.row(2, 1, 3), 1, 0, 1, 0, 2);
    }

    private void differ(int want, int[] first, int... second) {
        String name = " of " + Arrays.toString(first) + " and " + Arrays.toString(second);
        b.x = new PlayReader();
        b.version(0, first);
        b.version(7, second);
        b.due("differ(0, 7)" + name, b.x.differ(0, 7), want);
        b.due("differ(7, 0)" + name, b.x.differ(7, 0), want);
    }

    private void steps(int[] first, int[] second, int... steps) {
        String name = " of " + Arrays.toString(first) + " and " + Arrays.toString(second);
        b.x = new PlayReader();
        b.version(2, first);
        b.version(5, second);
        for (int i = 0; i < steps.length; i++) {
            b.due("step(2, 5, " + i + ")" + name, b.x.step(2, 5, i), steps[i]);
        }
        b.due("step behind the last one" + name, b.x.step(2, 5, steps.length), NONE);
    }

    // ---- 2: CONDITIONS

    private void conditions() {
        b.ofTerms("CONDITIONS, 12 at most, are of a SORT with x, y (LINES; SORT 1: y 0 .. 40):");
        for (int i = 0; i < 12; i++) {
            b.due("condition(1, 99, 40)", b.x.condition(1, 99, 40), i);
        }
        b.refused(FULL, "condition(1, 99, 40)", x -> x.condition(1, 99, 40));
        b.refused(BAD, "condition(1, 99, 41)", x -> x.condition(1, 99, 41));
        b.taken(0, 40, "condition(1, 99, y)", (x, y) -> x.condition(1, 99, y));
        b.taken(0, 99, "condition(6, 99, y)", (x, y) -> x.condition(6, 99, y));
        b.taken(0, 6, "condition(sort, 99, 40)", (x, sort) -> x.condition(sort, 99, 40));
        never();
        atMost();
        behind();
        notWith();
        always();
        justBehind();
        last();
    }

    private void never() {
        b.ofTerms("0 x is NEVER said.");
        judged(KEPT, 0, 5, 5);
        judged(KEPT, 0, 5, 6, 6, 4);
        judged(BREACH, 0, 5, 6, 5);
        judged(BREACH, 0, 5, 6, 5, 6, 6);
        judged(BREACH, 0, 5, 6, 6, 6, 5);
        judged(BREACH, 0, 5, 6, 5, 5);
        judged(DOUBT, 0, 5, 6, NONE);
        judged(BREACH, 0, 5, 6, NONE, 5);
        judged(KEPT, 0, 0, 99, Boundaries.like(99, 40));
        judged(BREACH, 0, 0, 99, Boundaries.joined(Boundaries.like(99, 39), 0));
    }

    private void atMost() {
        b.ofTerms("1 x is said y times AT MOST.");
        judged(KEPT, 1, 5, 0);
        judged(KEPT, 1, 5, 0, 6);
        judged(BREACH, 1, 5, 0, 5);
        judged(KEPT, 1, 5, 1, 5, 6);
        judged(BREACH, 1, 5, 1, 5, 6, 5);
        judged(KEPT, 1, 5, 2, 5, 6, 5);
        judged(BREACH, 1, 5, 1, 5, 5, 6);
        judged(BREACH, 1, 5, 1, 5, 5, 5, 5, 6, NONE);
        judged(KEPT, 1, 5, 39, Boundaries.like(5, 39));
        judged(BREACH, 1, 5, 39, Boundaries.like(5, 40));
        judged(KEPT, 1, 5, 40, Boundaries.like(5, 40));
        judged(DOUBT, 1, 5, 0, NONE);
        judged(DOUBT, 1, 5, 40, NONE);
        judged(DOUBT, 1, 5, 2, 5, NONE, 5);
        judged(BREACH, 1, 5, 1, 5, NONE, 5);
        judged(DOUBT, 1, 5, 40, Boundaries.joined(Boundaries.like(5, 39), NONE));
        judged(DOUBT, 1, 5, 39, Boundaries.joined(Boundaries.like(5, 39), NONE));
        judged(BREACH, 1, 5, 38, Boundaries.joined(Boundaries.like(5, 39), NONE));
        // y is a number here, and no LINE: said or not, LINE 2 changes nothing.
        judged(KEPT, 1, 5, 2, 2, 2, 2, 5, 5);
    }

    private void behind() {
        b.ofTerms("2 each x is BEHIND some y that was said before it.");
        judged(KEPT, 2, 5, 6);
        judged(KEPT, 2, 5, 6, 6);
        judged(BREACH, 2, 5, 6, 5);
        judged(KEPT, 2, 5, 6, 6, 5);
        judged(BREACH, 2, 5, 6, 5, 6);
        judged(BREACH, 2, 5, 6, 5, 6, 5);
        judged(BREACH, 2, 5, 6, 7, 5);
        judged(BREACH, 2, 5, 6, 7, 5, 6, 7);
        judged(KEPT, 2, 5, 6, 6, 7, 5, 5);
        judged(KEPT, 2, 5, 5, 6);
        judged(BREACH, 2, 5, 5, 5, 5);
        judged(DOUBT, 2, 5, 6, NONE);
        judged(DOUBT, 2, 5, 6, NONE, 5);
        judged(KEPT, 2, 5, 6, 6, NONE, 5);
        judged(BREACH, 2, 5, 6, 5, NONE);
        judged(DOUBT, 2, 5, 5, NONE);
        judged(KEPT, 2, 5, 6, Boundaries.joined(Boundaries.row(6), Boundaries.like(5, 39)));
        judged(BREACH, 2, 5, 6, Boundaries.joined(Boundaries.row(5), Boundaries.like(6, 39)));
    }

    private void notWith() {
        b.ofTerms("3 x is not said if y is said anywhere (NOT WITH).");
        judged(KEPT, 3, 5, 6);
        judged(KEPT, 3, 5, 6, 5);
        judged(KEPT, 3, 5, 6, 6);
        judged(BREACH, 3, 5, 6, 5, 6);
        judged(BREACH, 3, 5, 6, 6, 5);
        judged(BREACH, 3, 5, 6, 6, 7, 7, 5);
        judged(BREACH, 3, 5, 6, 5, 6, 7);
        judged(BREACH, 3, 5, 6, 5, 6, NONE, 7);
        judged(KEPT, 3, 5, 6, 6, 7);
        judged(KEPT, 3, 5, 6, 7, 5);
        judged(BREACH, 3, 5, 5, 5);
        judged(KEPT, 3, 5, 5, 6);
        judged(DOUBT, 3, 5, 6, NONE);
        judged(DOUBT, 3, 5, 6, 5, NONE);
        judged(DOUBT, 3, 5, 6, NONE, 6);
        judged(BREACH, 3, 5, 6, 6, NONE, 5);
        judged(BREACH, 3, 5, 6, Boundaries.joined(Boundaries.like(5, 39), 6));
    }

    private void always() {
        b.ofTerms("4 x is said ALWAYS (once, or more).");
        judged(BREACH, 4, 5, 6);
        judged(BREACH, 4, 5, 6, 6);
        judged(KEPT, 4, 5, 6, 5);
        judged(KEPT, 4, 5, 6, 6, 5, 5);
        judged(KEPT, 4, 5, 6, 5, 6);
        judged(DOUBT, 4, 5, 6, NONE);
        judged(KEPT, 4, 5, 6, NONE, 5);
        judged(BREACH, 4, 5, 6, Boundaries.like(6, 40));
        judged(KEPT, 4, 5, 6, Boundaries.joined(Boundaries.like(6, 39), 5));
    }

    private void justBehind() {
        b.ofTerms("5 each x is said JUST BEHIND y (the LINE ahead is y).");
        judged(KEPT, 5, 5, 6);
        judged(KEPT, 5, 5, 6, 6);
        judged(BREACH, 5, 5, 6, 5);
        judged(KEPT, 5, 5, 6, 6, 5);
        judged(BREACH, 5, 5, 6, 6, 7, 5);
        judged(BREACH, 5, 5, 6, 6, 5, 5);
        judged(KEPT, 5, 5, 6, 6, 5, 6, 6, 5);
        judged(BREACH, 5, 5, 6, 7, 5);
        judged(BREACH, 5, 5, 6, 7, 5, 6, 5);
        judged(BREACH, 5, 5, 6, 5, 6, 5);
        judged(BREACH, 5, 5, 6, 6, 5, 7, 5);
        judged(BREACH, 5, 5, 5, 5, 5);
        judged(KEPT, 5, 5, 5, 6);
        judged(DOUBT, 5, 5, 6, NONE);
        judged(DOUBT, 5, 5, 6, NONE, 5);
        judged(DOUBT, 5, 5, 6, 6, NONE, 5);
        judged(KEPT, 5, 5, 6, 6, 5, 6);
        judged(BREACH, 5, 5, 6, NONE, 5, 5);
        judged(DOUBT, 5, 5, 5, NONE);
        judged(BREACH, 5, 5, 5, NONE, 5);
        judged(BREACH, 5, 5, 6, Boundaries.joined(Boundaries.like(6, 38), 5, 5));
    }

    private void last() {
        b.ofTerms("6 no y is said behind any x (LAST).");
        judged(KEPT, 6, 5, 6);
        judged(KEPT, 6, 5, 6, 5);
        judged(KEPT, 6, 5, 6, 6);
        judged(KEPT, 6, 5, 6, 6, 5);
        judged(BREACH, 6, 5, 6, 5, 6);
        judged(BREACH, 6, 5, 6, 5, 7, 6, 5);
        judged(KEPT, 6, 5, 6, 7, 6);
        judged(KEPT, 6, 5, 6, 7, 6, 5, 7);
        judged(BREACH, 6, 5, 6, 5, 6, 7, 7);
        judged(KEPT, 6, 5, 5, 5);
        judged(BREACH, 6, 5, 5, 5, 7, 5);
        judged(DOUBT, 6, 5, 6, NONE);
        judged(DOUBT, 6, 5, 6, 5, NONE);
        judged(DOUBT, 6, 5, 6, NONE, 6);
        judged(BREACH, 6, 5, 6, 5, NONE, 6);
        judged(DOUBT, 6, 5, 5, NONE);
        judged(BREACH, 6, 5, 6, Boundaries.joined(Boundaries.row(5), Boundaries.joined(Boundaries.like(7, 38), 6)));
    }

    /** A row of things by one CONDITION: judge, verdict, and breaks if it has no GAPS. */
    private void judged(int want, int sort, int line, int y, int... things) {
        String name = " by SORT " + sort + ", x " + line + ", y " + y + " of " + Arrays.toString(things);
        b.x = new PlayReader();
        b.due("condition" + name, b.x.condition(sort, line, y), 0);
        b.performance(3, things);
        b.due("judge" + name, b.x.judge(3, 0), want);
        b.due("verdict" + name, b.x.verdict(3), want);
        if (Arrays.stream(things).noneMatch(thing -> thing == NONE)) {
            b.version(7, things);
            b.due("breaks" + name, b.x.breaks(7), want == BREACH ? 0 : NONE);
        }
    }

    // ---- 2: PERFORMANCES

    private void performances() {
        b.ofTerms("A row of LINES KEEPS a CONDITION or BREAKS it.");
        judged(KEPT, 4, 5, 0, 5);
        judged(BREACH, 4, 5, 0, 4);

        b.ofTerms("A PERFORMANCE is a row of up to 40 things heard: LINES, and GAPS (NONE)");
        b.performance(0, Boundaries.joined(Boundaries.like(NONE, 39), 0));
        b.refused(FULL, "hear(0, NONE)", x -> x.hear(0, NONE));
        b.refused(FULL, "hear(0, 0)", x -> x.hear(0, 0));
        b.isPerformance(0, Boundaries.joined(Boundaries.like(NONE, 39), 0));
        b.taken(NONE, 99, "hear(3, line)", (x, line) -> x.hear(3, line));
        gapsStandFor();

        b.ofTerms("It is KEPT, if all rows that it may stand for KEEP the CONDITION");
        judged(KEPT, 2, 5, 6, 6, NONE);
        judged(KEPT, 4, 5, 0, NONE, 5, NONE);
        b.ofTerms("a BREACH, if all BREAK it");
        judged(BREACH, 0, 5, 0, NONE, 5, NONE);
        judged(BREACH, 6, 5, 6, NONE, 5, NONE, 6, NONE);
        b.ofTerms("else a DOUBT.");
        for (int sort = 0; sort <= 6; sort++) {
            judged(DOUBT, sort, 5, 6, NONE);
            judged(DOUBT, sort, 5, 5, NONE);
            judged(DOUBT, sort, 0, 40, Boundaries.like(NONE, 40));
        }
    }

    private void gapsStandFor() {
        b.ofTerms(", each of which stands for any row of LINES, perhaps none.");
        // If it stands for none, 5 is JUST BEHIND 6; if it stands for a LINE, perhaps not.
        judged(DOUBT, 5, 5, 6, 6, NONE, 5);
        // It may stand for more than forty LINES.
        judged(DOUBT, 1, 5, 40, NONE);
        // Each GAP stands for a row of its own: the one ahead says y, the one behind says x.
        judged(DOUBT, 3, 5, 6, NONE, 7, NONE);
        judged(DOUBT, 6, 5, 6, NONE, 7, NONE);
        judged(BREACH, 5, 5, 6, NONE, 7, 5, NONE);
        judged(KEPT, 2, 5, 6, 6, 5, NONE, NONE);
    }

    // ---- 3: MARKS and RULES

    private void marksAndRules() {
        b.ofTerms("LINES have MARKS (bits 0 .. 7; 0 at first).");
        for (int line = 0; line < 100; line++) {
            b.due("mark(" + line + ", 255), the first time", b.x.mark(line, 255), 0);
        }
        b.taken(0, 255, "mark(0, marks)", (x, marks) -> x.mark(0, marks));

        b.ofTerms("RULES, 20 at most: a TOWN 0 .. 7, MARKS, days from .. to (0 .. 999):");
        for (int i = 0; i < 20; i++) {
            b.due("rule " + i, b.x.rule(7, 255, 999, 999), i);
        }
        b.refused(FULL, "rule 20", x -> x.rule(7, 255, 999, 999));
        b.taken(0, 7, "rule(town, 0, 0, 0)", (x, town) -> x.rule(town, 0, 0, 0));
        b.taken(0, 255, "rule(0, marks, 0, 0)", (x, marks) -> x.rule(0, marks, 0, 0));
        b.taken(0, 999, "rule(0, 0, from, 999)", (x, from) -> x.rule(0, 0, from, 999));
        b.taken(0, 999, "rule(0, 0, 0, to)", (x, to) -> x.rule(0, 0, 0, to));

        forbiddenMarks();
        forbiddenDays();

        b.ofTerms("CUT in a TOWN on a day: the LINES of a VERSION that are FORBIDDEN (each time it has them).");
        b.version(0, 5, 5, 6, 5);
        b.x.mark(5, 3);
        b.x.rule(0, 1, 0, 9);
        b.due("cut(0, 0, 0): three times", b.x.cut(0, 0, 0), 3);
        b.x.rule(0, 2, 0, 9);
        b.x.rule(0, 3, 0, 9);
        b.due("cut(0, 0, 0): FORBIDDEN by three RULES, CUT once", b.x.cut(0, 0, 0), 3);
    }

    private void forbiddenMarks() {
        b.ofTerms("a LINE with one of these MARKS is FORBIDDEN there on these days.");
        b.version(0, 5);
        for (int bit = 0; bit < 8; bit++) {
            b.x.rule(bit, 1 << bit, 0, 999);
        }
        for (int bit = 0; bit < 8; bit++) {
            b.x.mark(5, 1 << bit);
            for (int town = 0; town < 8; town++) {
                b.due("cut in TOWN " + town + " with bit " + bit, b.x.cut(0, town, 500), town == bit ? 1 : 0);
            }
        }
        b.x.mark(5, 255);
        b.due("cut(0, 3, 0) with all MARKS", b.x.cut(0, 3, 0), 1);
        b.x.mark(5, 255 - 8);
        b.due("cut(0, 3, 0) with all other MARKS", b.x.cut(0, 3, 0), 0);
        b.x.mark(5, 0);
        b.x.rule(3, 255, 0, 999);
        b.due("cut(0, 3, 0) without MARKS", b.x.cut(0, 3, 0), 0);
        b.x.mark(5, 128);
        b.due("cut(0, 3, 0) by the later RULE", b.x.cut(0, 3, 0), 1);
        b.due("cut(0, 4, 0)", b.x.cut(0, 4, 0), 0);
        forbiddenByEachRule();
    }

    private void forbiddenByEachRule() {
        b.ofTerms("a LINE with one of these MARKS is FORBIDDEN there on these days.");
        b.version(0, 5, 6, 7);
        b.x.mark(5, 1);
        b.x.mark(6, 2);
        b.x.rule(0, 1, 0, 10);
        b.x.rule(0, 2, 10, 20);
        b.x.rule(0, 4, 0, 20);
        int[][] cuts = {{9, 1}, {10, 2}, {11, 1}, {21, 0}};
        for (int[] c : cuts) {
            b.due("cut(0, 0, " + c[0] + ")", b.x.cut(0, 0, c[0]), c[1]);
        }
        b.due("fit(0, 0, 10, 1)", b.x.fit(0, 0, 10, 1), 1);
        b.isVersion(1, 7);
        b.due("free(0, 0, 0)", b.x.free(0, 0, 0), 21);
        b.due("tour(0, 1, 10, 0)", b.x.tour(0, 1, 10, 0), 2);
    }

    private void forbiddenDays() {
        b.ofTerms("on these days.");
        b.version(0, 5);
        b.x.mark(5, 1);
        b.x.rule(0, 1, 10, 12);
        b.x.rule(1, 1, 7, 7);
        b.x.rule(2, 0, 0, 999);
        int[][] cuts = {{0, 9, 0}, {0, 10, 1}, {0, 11, 1}, {0, 12, 1}, {0, 13, 0}, {0, 0, 0}, {0, 999, 0},
            {1, 6, 0}, {1, 7, 1}, {1, 8, 0}, {2, 0, 0}, {2, 999, 0}};
        for (int[] c : cuts) {
            b.due("cut(0, " + c[0] + ", " + c[1] + ")", b.x.cut(0, c[0], c[1]), c[2]);
        }
    }

    // ---- 3: TOURS

    private void tours() {
        b.ofTerms("A TOUR of a VERSION: TOWNS of a set, each once");
        b.x.tour(0, 170, 0, 0);
        b.isTour(1, 3, 5, 7);
        b.x.tour(0, 1, 0, 0);
        b.isTour(0);
        b.x.tour(0, 255, 0, 0);
        b.isTour(0, 1, 2, 3, 4, 5, 6, 7);
        oneADay();
        b.ofTerms("with so many days of rest between two;");
        forbidAllBut(0, 5, 1, 8);
        b.due("tour(0, 3, 5, 2): days 5 and 8", b.x.tour(0, 3, 5, 2), 0);
        b.isTour(0, 1);
        b.due("tour(0, 3, 5, 1): days 5 and 7", b.x.tour(0, 3, 5, 1), 1);
        b.due("tour(0, 3, 5, 3): days 5 and 9", b.x.tour(0, 3, 5, 3), 1);
        fewestOnAllDays();
        b.ofTerms("of like ones the first by numbers of TOWNS.");
        b.version(0, 5);
        b.x.mark(5, 1);
        b.x.rule(2, 1, 11, 999);
        b.due("tour(0, 7, 10, 0): TOWN 2 first", b.x.tour(0, 7, 10, 0), 0);
        b.isTour(2, 0, 1);
        b.x.rule(2, 1, 10, 10);
        b.due("tour(0, 7, 10, 0): TOWN 2 costs one on any day", b.x.tour(0, 7, 10, 0), 1);
        b.isTour(0, 1, 2);
        b.due("tour(1, 7, 10, 0): nothing to CUT", b.x.tour(1, 7, 10, 0), 0);
        b.isTour(0, 1, 2);
    }

    private void oneADay() {
        b.ofTerms("one a day from a day on");
        b.version(0, 5);
        b.x.mark(5, 1);
        for (int town = 0; town < 8; town++) {
            int free = 17 - town;
            b.x.rule(town, 1, 0, free - 1);
            b.x.rule(town, 1, free + 1, 999);
        }
        b.due("tour(0, 255, 10, 0): each TOWN on its only day", b.x.tour(0, 255, 10, 0), 0);
        b.isTour(7, 6, 5, 4, 3, 2, 1, 0);
        b.due("tour(0, 255, 11, 0): one TOWN misses its day", b.x.tour(0, 255, 11, 0), 1);
        b.isTour(6, 5, 4, 3, 2, 1, 0, 7);
        b.due("tour(0, 255, 9, 0)", b.x.tour(0, 255, 9, 0), 1);
        b.isTour(0, 7, 6, 5, 4, 3, 2, 1);
    }

    /** One LINE is FORBIDDEN in two TOWNS on all days but one each. */
    private void forbidAllBut(int town, int day, int otherTown, int otherDay) {
        b.version(0, 5);
        b.x.mark(5, 1);
        b.x.rule(town, 1, 0, day - 1);
        b.x.rule(town, 1, day + 1, 999);
        b.x.rule(otherTown, 1, 0, otherDay - 1);
        b.x.rule(otherTown, 1, otherDay + 1, 999);
    }

    private void fewestOnAllDays() {
        b.ofTerms("the ORDER with the fewest LINES CUT on all days together");
        b.version(0, 5, 6, 6, 6);
        b.x.mark(5, 1);
        b.x.mark(6, 2);
        // What is cheapest on the first day is dear in the end.
        b.x.rule(1, 1, 0, 0);
        b.x.rule(0, 2, 1, 1);
        b.due("tour(0, 3, 0, 0): TOWN 0 costs 0 and TOWN 1 costs 0", b.x.tour(0, 3, 0, 0), 0);
        b.isTour(0, 1);
        b.x.rule(1, 2, 1, 1);
        b.due("tour(0, 3, 0, 0): 0 and 3, or 1 and 3", b.x.tour(0, 3, 0, 0), 3);
        b.isTour(0, 1);
        b.x.rule(0, 3, 0, 0);
        b.due("tour(0, 3, 0, 0): 4 and 3, or 1 and 3", b.x.tour(0, 3, 0, 0), 4);
        b.isTour(1, 0);
    }

    // ---- 3: TWO EARS

    private void twoEars() {
        b.ofTerms("TWO EARS: of two PERFORMANCES with as many things heard: at each place:");
        ears(0, Boundaries.row(), Boundaries.row());
        b.performance(0, 1);
        b.refused(NO, "both(0, 1, 2)", x -> x.both(0, 1, 2));
        b.ofTerms("both alike: that;");
        ears(0, Boundaries.row(0, 99, NONE), Boundaries.row(0, 99, NONE), 0, 99, NONE);
        b.ofTerms("one a GAP, the other one a LINE: the LINE;");
        ears(0, Boundaries.row(NONE, 0, NONE, 99), Boundaries.row(0, NONE, 99, NONE), 0, 0, 99, 99);
        b.ofTerms("two LINES that are unlike: a GAP, and a QUARREL is counted.");
        ears(1, Boundaries.row(0), Boundaries.row(99), NONE);
        ears(2, Boundaries.row(0, 5, 98), Boundaries.row(1, 5, 99), NONE, 5, NONE);
        ears(40, Boundaries.like(0, 40), Boundaries.like(1, 40), Boundaries.like(NONE, 40));
        ears(0, Boundaries.like(NONE, 40), Boundaries.like(1, 40), Boundaries.like(1, 40));
    }

    private void ears(int quarrels, int[] first, int[] second, int... together) {
        b.x = new PlayReader();
        b.performance(0, first);
        b.performance(1, second);
        b.due("both(0, 1, 3)", b.x.both(0, 1, 3), quarrels);
        b.isPerformance(3, together);
        b.due("both(1, 0, 2)", b.x.both(1, 0, 2), quarrels);
        b.isPerformance(2, together);
    }

    // ---- refusals

    private void refusals() {
        b.ofTerms("Refused, changing nothing, the first of: BAD -2 a number is not as told; NO -3 as told; FULL -4.");
        b.due("BAD", PlayReader.BAD, -2);
        b.due("NO", PlayReader.NO, -3);
        b.due("FULL", PlayReader.FULL, -4);
        b.due("NONE", PlayReader.NONE, -1);
        badComesAheadOfFull();
        badComesAheadOfNo();
    }

    private void badComesAheadOfFull() {
        b.ofTerms("the first of: BAD -2 a number is not as told; NO -3 as told; FULL -4.");
        b.version(0, Boundaries.like(1, 40));
        b.performance(0, Boundaries.like(1, 40));
        for (int i = 0; i < 20; i++) {
            b.x.rule(0, 1, 0, 0);
        }
        for (int i = 0; i < 12; i++) {
            b.x.condition(0, 5, 0);
        }
        b.refused(FULL, "put(0, 0, 1)", x -> x.put(0, 0, 1));
        b.refused(BAD, "put(0, 41, 1)", x -> x.put(0, 41, 1));
        b.refused(BAD, "put(0, 0, 100)", x -> x.put(0, 0, 100));
        b.refused(FULL, "hear(0, 1)", x -> x.hear(0, 1));
        b.refused(BAD, "hear(0, -2)", x -> x.hear(0, -2));
        b.refused(FULL, "condition(1, 0, 40)", x -> x.condition(1, 0, 40));
        b.refused(BAD, "condition(1, 0, 41)", x -> x.condition(1, 0, 41));
        b.refused(FULL, "rule(0, 1, 0, 0)", x -> x.rule(0, 1, 0, 0));
        b.refused(BAD, "rule(0, 1, 1, 0)", x -> x.rule(0, 1, 1, 0));
    }

    private void badComesAheadOfNo() {
        b.ofTerms("the first of: BAD -2 a number is not as told; NO -3 as told");
        b.performance(0, 1);
        b.refused(NO, "both(0, 1, 2)", x -> x.both(0, 1, 2));
        b.refused(BAD, "both(0, 1, 4)", x -> x.both(0, 1, 4));
        b.refused(BAD, "both(0, 4, 2)", x -> x.both(0, 4, 2));
        b.refused(BAD, "both(4, 0, 2)", x -> x.both(4, 0, 2));
        b.refused(NO, "tour(0, 3, 999, 0)", x -> x.tour(0, 3, 999, 0));
        b.refused(BAD, "tour(0, 3, 1000, 0)", x -> x.tour(0, 3, 1000, 0));
        b.refused(BAD, "tour(0, 3, 999, 21)", x -> x.tour(0, 3, 999, 21));
        b.refused(BAD, "tour(8, 3, 999, 0)", x -> x.tour(8, 3, 999, 0));
    }
}
