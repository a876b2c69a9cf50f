/** The sentences of promises 1 to 7: a new object, put, take, copy, lineAt, differ, step. */
final class VersionBoundaries {
    private static final int NONE = Boundaries.NONE;
    private static final int BAD = Boundaries.BAD;
    private static final int FULL = Boundaries.FULL;
    private static final int MIN = Boundaries.MIN;
    private static final int MAX = Boundaries.MAX;

    private final Boundaries b;

    private VersionBoundaries(Boundaries b) {
        this.b = b;
    }

    static void all(Boundaries b) {
        VersionBoundaries tests = new VersionBoundaries(b);
        tests.newObject();
        tests.put();
        tests.take();
        tests.copy();
        tests.lineAt();
        tests.differ();
        tests.step();
    }

    private void newObject() {
        newObjectVersionsWithoutLines();
        newObjectNothingHeard();
        newObjectNoConditions();
        newObjectNoRules();
    }

    private void newObjectVersionsWithoutLines() {
        b.of(1, "All VERSIONS without LINES");
        for (int v = 0; v < 8; v++) {
            b.isVersion(v);
            b.due("take(" + v + ", 0)", b.x.take(v, 0), BAD);
            b.due("differ(0, " + v + ")", b.x.differ(0, v), 0);
            b.due("step(0, " + v + ", 0)", b.x.step(0, v, 0), NONE);
        }
        b.due("count(0)", b.x.count(0), 0);
    }

    private void newObjectNothingHeard() {
        b.of(1, "PERFORMANCES 0 .. 3 with nothing heard");
        for (int p = 0; p < 4; p++) {
            b.isPerformance(p);
            b.due("forget(" + p + ")", b.x.forget(p), 0);
            b.due("may(" + p + ", 0)", b.x.may(p, 0), 1);
        }
        b.due("count(2)", b.x.count(2), 0);
        b.due("count(3)", b.x.count(3), 0);
    }

    private void newObjectNoConditions() {
        b.of(1, "no CONDITIONS");
        b.due("count(1)", b.x.count(1), 0);
        b.due("clear()", b.x.clear(), 0);
        b.due("judge(0, 0)", b.x.judge(0, 0), BAD);
        b.due("breaks(0)", b.x.breaks(0), NONE);
        b.due("verdict(0)", b.x.verdict(0), 0);
        b.due("the first one's number", b.x.condition(0, 0, 0), 0);
    }

    private void newObjectNoRules() {
        b.of(1, "no RULES");
        b.due("count(4)", b.x.count(4), 0);
        b.version(0, 1);
        b.x.mark(1, 255);
        for (int town = 0; town < 8; town++) {
            b.due("cut(0, " + town + ", 0)", b.x.cut(0, town, 0), 0);
            b.due("cut(0, " + town + ", 999)", b.x.cut(0, town, 999), 0);
        }
        b.due("the first one's number", b.x.rule(0, 0, 0, 0), 0);
    }

    // ---- put

    private void put() {
        putComesIntoOneVersion();
        putAheadOfPlace();
        putHowMany();
        putBad();
        putFull();
    }

    private void putComesIntoOneVersion() {
        b.of(2, "A LINE comes into a VERSION");
        b.due("put(0, 0, 0)", b.x.put(0, 0, 0), 1);
        b.due("put(7, 0, 99)", b.x.put(7, 0, 99), 1);
        b.isVersion(0, 0);
        b.isVersion(7, 99);
        for (int v = 1; v < 7; v++) {
            b.isVersion(v);
        }
    }

    private void putAheadOfPlace() {
        b.of(2, "ahead of place i (0 .. how many)");
        b.due("put(3, 1, 5) into none", b.x.put(3, 1, 5), BAD);
        b.due("put(3, 0, 5) into none", b.x.put(3, 0, 5), 1);
        b.due("put(3, 1, 6) behind the last one", b.x.put(3, 1, 6), 2);
        b.due("put(3, 0, 7) ahead of the first one", b.x.put(3, 0, 7), 3);
        b.due("put(3, 2, 8) ahead of the last one", b.x.put(3, 2, 8), 4);
        b.isVersion(3, 7, 5, 8, 6);
        b.refused(BAD, "put(3, 5, 9)", x -> x.put(3, 5, 9));
        b.refused(BAD, "put(3, -1, 9)", x -> x.put(3, -1, 9));
        b.isVersion(3, 7, 5, 8, 6);
    }

    private void putHowMany() {
        b.of(2, ": how many.");
        for (int i = 0; i < 40; i++) {
            b.due("put(2, 0, " + i + ")", b.x.put(2, 0, i), i + 1);
        }
        for (int i = 0; i < 40; i++) {
            b.due("lineAt(2, " + i + ")", b.x.lineAt(2, i), 39 - i);
        }
    }

    private void putBad() {
        b.of(2, "BAD");
        b.taken(0, 7, "put(version, 0, 1)", (x, version) -> x.put(version, 0, 1));
        b.taken(0, 3, "put(0, i, 1)", (x, i) -> x.put(0, i, 1));
        b.taken(0, 0, "put(5, i, 1)", (x, i) -> x.put(5, i, 1));
        b.taken(0, 99, "put(0, 0, line)", (x, line) -> x.put(0, 0, line));
    }

    private void putFull() {
        b.of(2, "FULL");
        b.version(1, Boundaries.like(4, 39));
        b.due("the fortieth LINE", b.x.put(1, 39, 5), 40);
        for (int i : new int[] {0, 1, 20, 39, 40}) {
            b.refused(FULL, "put(1, " + i + ", 6) into 40", x -> x.put(1, i, 6));
        }
        b.isVersion(1, Boundaries.joined(Boundaries.like(4, 39), 5));
        for (int i : new int[] {-1, 41, MIN, MAX}) {
            b.refused(BAD, "put(1, " + i + ", 6) into 40", x -> x.put(1, i, 6));
        }
        for (int line : new int[] {-1, 100}) {
            b.refused(BAD, "put(1, 0, " + line + ") into 40", x -> x.put(1, 0, line));
        }
        b.due("put into another one", b.x.put(0, 0, 6), 1);
        b.due("take(1, 0)", b.x.take(1, 0), 4);
        b.due("put(1, 0, 6) into 39 again", b.x.put(1, 0, 6), 40);
    }

    // ---- take

    private void take() {
        takeGoes();
        takeWhichItWas();
        takeBad();
    }

    private void takeGoes() {
        b.of(3, "LINE i of a VERSION goes");
        b.version(0, 1, 2, 3, 4, 5);
        b.version(1, 1, 2);
        b.due("take(0, 0), the first one", b.x.take(0, 0), 1);
        b.isVersion(0, 2, 3, 4, 5);
        b.due("take(0, 3), the last one", b.x.take(0, 3), 5);
        b.isVersion(0, 2, 3, 4);
        b.due("take(0, 1), between", b.x.take(0, 1), 3);
        b.isVersion(0, 2, 4);
        b.isVersion(1, 1, 2);
        takeGoesFromFortyLines();
    }

    private void takeGoesFromFortyLines() {
        b.of(3, "LINE i of a VERSION goes");
        int[] lines = new int[40];
        for (int i = 0; i < 40; i++) {
            lines[i] = 50 + i;
        }
        b.version(0, lines);
        b.due("take(0, 0) of 40", b.x.take(0, 0), 50);
        b.isVersion(0, java.util.Arrays.copyOfRange(lines, 1, 40));
        b.due("put(0, 0, 50)", b.x.put(0, 0, 50), 40);
        b.isVersion(0, lines);
    }

    private void takeWhichItWas() {
        b.of(3, "which it was");
        b.version(7, 0, 99, 50);
        b.due("take(7, 1)", b.x.take(7, 1), 99);
        b.due("take(7, 0)", b.x.take(7, 0), 0);
        b.due("take(7, 0), the only one", b.x.take(7, 0), 50);
        b.refused(BAD, "take(7, 0) of none", x -> x.take(7, 0));
        b.version(0, Boundaries.joined(Boundaries.like(4, 39), 5));
        b.due("take(0, 39) of 40", b.x.take(0, 39), 5);
        b.isVersion(0, Boundaries.like(4, 39));
    }

    private void takeBad() {
        b.of(3, "BAD");
        b.taken(0, 7, "take(version, 0)", (x, version) -> x.take(version, 0));
        b.taken(0, 2, "take(0, i)", (x, i) -> x.take(0, i));
        b.refused(BAD, "take(4, 0) of none", x -> x.take(4, 0));
        b.version(0, Boundaries.like(4, 40));
        b.refused(BAD, "take(0, 40) of 40", x -> x.take(0, 40));
    }

    // ---- copy

    private void copy() {
        copyBecomes();
        copyHowMany();
        copyBad();
    }

    private void copyBecomes() {
        b.of(4, "A VERSION becomes what another one is");
        b.version(0, 1, 2, 3);
        b.version(7, 9, 9, 9, 9, 9);
        b.due("copy(0, 7), from fewer", b.x.copy(0, 7), 3);
        b.isVersion(7, 1, 2, 3);
        b.isVersion(0, 1, 2, 3);
        b.due("take(7, 0)", b.x.take(7, 0), 1);
        b.isVersion(0, 1, 2, 3);
        b.due("put(0, 0, 8)", b.x.put(0, 0, 8), 4);
        b.isVersion(7, 2, 3);
        b.due("copy(0, 7), from more", b.x.copy(0, 7), 4);
        b.isVersion(7, 8, 1, 2, 3);
    }

    private void copyHowMany() {
        b.of(4, "how many LINES");
        b.version(0, Boundaries.joined(Boundaries.like(4, 39), 5));
        b.due("copy(1, 2), none to none", b.x.copy(1, 2), 0);
        b.due("copy(0, 2), 40 to none", b.x.copy(0, 2), 40);
        b.isVersion(2, Boundaries.joined(Boundaries.like(4, 39), 5));
        b.due("copy(2, 2), to itself", b.x.copy(2, 2), 40);
        b.isVersion(2, Boundaries.joined(Boundaries.like(4, 39), 5));
        b.due("copy(0, 2), 40 to 40", b.x.copy(0, 2), 40);
        b.due("copy(1, 2), none to 40", b.x.copy(1, 2), 0);
        b.isVersion(2);
        b.due("count(0)", b.x.count(0), 40);
    }

    private void copyBad() {
        b.of(4, "BAD");
        b.taken(0, 7, "copy(from, 0)", (x, from) -> x.copy(from, 0));
        b.taken(0, 7, "copy(0, to)", (x, to) -> x.copy(0, to));
        b.refused(BAD, "copy(8, 8)", x -> x.copy(8, 8));
    }

    // ---- lineAt

    private void lineAt() {
        lineAtLine();
        lineAtNone();
        lineAtBad();
    }

    private void lineAtLine() {
        b.of(5, "LINE i.");
        b.version(6, Boundaries.joined(Boundaries.joined(Boundaries.row(0), Boundaries.like(4, 38)), 99));
        b.due("lineAt(6, 0)", b.x.lineAt(6, 0), 0);
        b.due("lineAt(6, 1)", b.x.lineAt(6, 1), 4);
        b.due("lineAt(6, 38)", b.x.lineAt(6, 38), 4);
        b.due("lineAt(6, 39)", b.x.lineAt(6, 39), 99);
        b.due("lineAt(6, 40)", b.x.lineAt(6, 40), NONE);
    }

    private void lineAtNone() {
        b.of(5, "NONE: not so many (i below 0, too)");
        b.version(0, 7, 8);
        for (int i : new int[] {-1, -2, 2, 3, 39, 40, 41, MIN, MAX}) {
            b.due("lineAt(0, " + i + ")", b.x.lineAt(0, i), NONE);
            b.due("lineAt(1, " + i + ") of none", b.x.lineAt(1, i), NONE);
        }
        b.due("take(0, 1)", b.x.take(0, 1), 8);
        b.due("lineAt(0, 1) behind take", b.x.lineAt(0, 1), NONE);
    }

    private void lineAtBad() {
        b.of(5, "BAD");
        b.taken(0, 7, "lineAt(version, 0)", (x, version) -> x.lineAt(version, 0));
        b.taken(0, 7, "lineAt(version, -1), BAD ahead of NONE", (x, version) -> x.lineAt(version, -1));
        b.taken(0, 7, "lineAt(version, 40), BAD ahead of NONE", (x, version) -> x.lineAt(version, 40));
    }

    // ---- differ

    private void differ() {
        differDifference();
        differBad();
    }

    private void differDifference() {
        b.of(6, "DIFFERENCE");
        b.version(1, 3);
        b.due("differ(0, 0), none and itself", b.x.differ(0, 0), 0);
        b.due("differ(0, 1), none and one", b.x.differ(0, 1), 1);
        b.due("differ(1, 0), one and none", b.x.differ(1, 0), 1);
        b.due("differ(1, 1), one and itself", b.x.differ(1, 1), 0);
        b.version(2, Boundaries.like(1, 40));
        b.version(3, Boundaries.like(2, 40));
        b.due("differ(2, 2), 40 and itself", b.x.differ(2, 2), 0);
        b.due("differ(2, 3), 40 and 40 unlike ones", b.x.differ(2, 3), 80);
        b.due("differ(2, 0), 40 and none", b.x.differ(2, 0), 40);
        b.due("differ(0, 3), none and 40", b.x.differ(0, 3), 40);
        b.x.take(3, 0);
        b.x.put(3, 39, 1);
        b.due("differ(2, 3), one alike", b.x.differ(2, 3), 78);
    }

    private void differBad() {
        b.of(6, "BAD");
        b.taken(0, 7, "differ(a, 1)", (x, a) -> x.differ(a, 1));
        b.taken(0, 7, "differ(1, b)", (x, other) -> x.differ(1, other));
        b.refused(BAD, "differ(8, 8)", x -> x.differ(8, 8));
        b.refused(BAD, "differ(-1, -1)", x -> x.differ(-1, -1));
    }

    // ---- step

    private void step() {
        stepOfChanges();
        stepOfFullVersions();
        stepNone();
        stepBad();
    }

    private void steps(int a, int other, int... steps) {
        for (int i = 0; i < steps.length; i++) {
            b.due("step(" + a + ", " + other + ", " + i + ")", b.x.step(a, other, i), steps[i]);
        }
        b.due("step behind the last one", b.x.step(a, other, steps.length), NONE);
    }

    private void stepOfChanges() {
        b.of(7, "Step i of CHANGES");
        b.version(1, 5);
        steps(0, 0);
        steps(0, 1, 2);
        steps(1, 0, 1);
        steps(1, 1, 0);
        b.version(0, 6);
        steps(0, 1, 1, 2);
        b.version(0, 5, 6);
        steps(0, 1, 0, 1);
        steps(1, 0, 0, 2);
        b.version(0, 6, 5);
        steps(0, 1, 1, 0);
        steps(1, 0, 2, 0);
    }

    private void stepOfFullVersions() {
        b.of(7, "Step i of CHANGES");
        b.version(0, Boundaries.like(1, 40));
        b.version(1, Boundaries.like(2, 40));
        for (int i : new int[] {0, 39, 40, 79}) {
            b.due("step(0, 1, " + i + ")", b.x.step(0, 1, i), i < 40 ? 1 : 2);
        }
        b.due("step(0, 1, 80)", b.x.step(0, 1, 80), NONE);
        b.due("step(0, 0, 39)", b.x.step(0, 0, 39), 0);
        b.due("step(0, 0, 40)", b.x.step(0, 0, 40), NONE);
        b.due("step(0, 2, 39)", b.x.step(0, 2, 39), 1);
        b.due("step(0, 2, 40)", b.x.step(0, 2, 40), NONE);
        b.due("step(2, 0, 39)", b.x.step(2, 0, 39), 2);
        b.due("step(2, 0, 40)", b.x.step(2, 0, 40), NONE);
    }

    private void stepNone() {
        b.of(7, "NONE: not so many (i below 0, too)");
        b.version(0, 1, 2);
        b.version(1, 2, 1);
        for (int i : new int[] {-1, -2, 3, 4, 5, 79, 80, 81, MIN, MAX}) {
            b.due("step(0, 1, " + i + ") of three", b.x.step(0, 1, i), NONE);
        }
        b.due("step(0, 0, 2) of two", b.x.step(0, 0, 2), NONE);
        for (int i : new int[] {-1, 0, 1, MIN, MAX}) {
            b.due("step(2, 3, " + i + ") of none", b.x.step(2, 3, i), NONE);
        }
    }

    private void stepBad() {
        b.of(7, "BAD");
        b.taken(0, 7, "step(a, 1, 0)", (x, a) -> x.step(a, 1, 0));
        b.taken(0, 7, "step(1, b, 0)", (x, other) -> x.step(1, other, 0));
        b.taken(0, 7, "step(a, 1, -1), BAD ahead of NONE", (x, a) -> x.step(a, 1, -1));
        b.taken(0, 7, "step(1, b, 80), BAD ahead of NONE", (x, other) -> x.step(1, other, 80));
        b.refused(BAD, "step(8, 8, 0)", x -> x.step(8, 8, 0));
    }
}
