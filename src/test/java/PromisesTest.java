/** Each promise by hand: ordinary calls, the edges that the document names, wrong inputs. */
public final class PromisesTest {
    private static final int NONE = PlayReader.NONE;
    private static final int BAD = PlayReader.BAD;
    private static final int NO = PlayReader.NO;
    private static final int FULL = PlayReader.FULL;
    private static final int MIN = Integer.MIN_VALUE;
    private static final int MAX = Integer.MAX_VALUE;

    private static Check check;
    private static PlayReader x;

    public static void main(String[] args) {
        check = new Check("PromisesTest");
        newObject();
        put();
        take();
        copy();
        lineAt();
        differ();
        step();
        condition();
        clear();
        breaks();
        hear();
        forget();
        heard();
        judge();
        judgeGaps();
        judgeAtMost();
        verdict();
        both();
        may();
        mark();
        rule();
        cut();
        fit();
        tour();
        tourOrders();
        town();
        free();
        count();
        digest();
        check.end();
    }

    private static void due(String call, long got, long want) {
        check.due(call, got, want);
    }

    private static void version(int version, int... lines) {
        while (x.lineAt(version, 0) != NONE) {
            x.take(version, 0);
        }
        for (int i = 0; i < lines.length; i++) {
            due("put(" + version + ", " + i + ", " + lines[i] + ")", x.put(version, i, lines[i]), i + 1);
        }
    }

    private static void isVersion(String when, int version, int... lines) {
        for (int i = 0; i < lines.length; i++) {
            due(when + ": lineAt(" + version + ", " + i + ")", x.lineAt(version, i), lines[i]);
        }
        due(when + ": lineAt behind the last one of " + version, x.lineAt(version, lines.length), NONE);
    }

    private static void performance(int performance, int... things) {
        x.forget(performance);
        for (int i = 0; i < things.length; i++) {
            due("hear(" + performance + ", " + things[i] + ")", x.hear(performance, things[i]), i + 1);
        }
    }

    private static void isPerformance(String when, int performance, int... things) {
        for (int i = 0; i < things.length; i++) {
            due(when + ": heard(" + performance + ", " + i + ")", x.heard(performance, i), things[i]);
        }
        due(when + ": heard behind the last thing of " + performance, x.heard(performance, things.length), BAD);
    }

    private static void steps(int a, int b, int... steps) {
        for (int i = 0; i < steps.length; i++) {
            due("step(" + a + ", " + b + ", " + i + ")", x.step(a, b, i), steps[i]);
        }
        due("step behind the last one", x.step(a, b, steps.length), NONE);
    }

    private static int[] like(int line, int times) {
        int[] lines = new int[times];
        java.util.Arrays.fill(lines, line);
        return lines;
    }

    private static void newObject() {
        x = new PlayReader();
        for (int v = 0; v < 8; v++) {
            isVersion("new", v);
            due("new: breaks", x.breaks(v), NONE);
        }
        for (int p = 0; p < 4; p++) {
            isPerformance("new", p);
            due("new: verdict", x.verdict(p), 0);
            due("new: forget", x.forget(p), 0);
        }
        for (int what = 0; what < 5; what++) {
            due("new: count(" + what + ")", x.count(what), 0);
        }
        due("new: clear()", x.clear(), 0);
        due("new: town(0)", x.town(0), NONE);
        for (int line = 0; line < 100; line++) {
            due("new: mark(" + line + ", 0)", x.mark(line, 0), 0);
        }
        PlayReader other = new PlayReader();
        other.put(0, 0, 1);
        other.mark(1, 1);
        due("another object's LINES", x.count(0), 0);
        due("another object's MARKS", x.mark(1, 0), 0);
    }

    private static void put() {
        x = new PlayReader();
        due("put(7, 0, 99)", x.put(7, 0, 99), 1);
        due("put(7, 1, 0)", x.put(7, 1, 0), 2);
        due("put(7, 0, 5)", x.put(7, 0, 5), 3);
        due("put(7, 1, 6)", x.put(7, 1, 6), 4);
        isVersion("put", 7, 5, 6, 99, 0);
        isVersion("put elsewhere", 6);
        int[] bads = {-1, 8, MIN, MAX};
        for (int bad : bads) {
            due("put version " + bad, x.put(bad, 0, 1), BAD);
        }
        for (int bad : new int[] {-1, 5, MIN, MAX}) {
            due("put at " + bad, x.put(7, bad, 1), BAD);
        }
        for (int bad : new int[] {-1, 100, MIN, MAX}) {
            due("put line " + bad, x.put(7, 0, bad), BAD);
        }
        isVersion("put refused", 7, 5, 6, 99, 0);
        version(0, like(3, 40));
        due("put into 40", x.put(0, 40, 4), FULL);
        due("put into 40 at 0", x.put(0, 0, 4), FULL);
        due("put into 40 at 41", x.put(0, 41, 4), BAD);
        due("put into 40 a bad line", x.put(0, 0, 100), BAD);
        isVersion("put into 40", 0, like(3, 40));
    }

    private static void take() {
        x = new PlayReader();
        due("take(0, 0) of none", x.take(0, 0), BAD);
        version(0, 1, 2, 3, 4);
        due("take(0, 1)", x.take(0, 1), 2);
        isVersion("take", 0, 1, 3, 4);
        due("take(0, 2)", x.take(0, 2), 4);
        due("take(0, 0)", x.take(0, 0), 1);
        isVersion("take", 0, 3);
        for (int bad : new int[] {-1, 1, MIN, MAX}) {
            due("take(0, " + bad + ")", x.take(0, bad), BAD);
        }
        for (int bad : new int[] {-1, 8, MIN, MAX}) {
            due("take(" + bad + ", 0)", x.take(bad, 0), BAD);
        }
        isVersion("take refused", 0, 3);
        version(1, like(9, 40));
        due("take(1, 39)", x.take(1, 39), 9);
        due("put behind take", x.put(1, 39, 8), 40);
    }

    private static void copy() {
        x = new PlayReader();
        version(0, 1, 2, 3);
        version(7, 9, 9, 9, 9, 9);
        due("copy(0, 7)", x.copy(0, 7), 3);
        isVersion("copy", 7, 1, 2, 3);
        x.put(7, 0, 50);
        isVersion("copy is no alias", 0, 1, 2, 3);
        due("copy(7, 7)", x.copy(7, 7), 4);
        isVersion("copy to itself", 7, 50, 1, 2, 3);
        due("copy(5, 7)", x.copy(5, 7), 0);
        isVersion("copy of none", 7);
        for (int bad : new int[] {-1, 8, MIN, MAX}) {
            due("copy(" + bad + ", 0)", x.copy(bad, 0), BAD);
            due("copy(0, " + bad + ")", x.copy(0, bad), BAD);
        }
        isVersion("copy refused", 0, 1, 2, 3);
        version(2, like(4, 40));
        due("copy(2, 3)", x.copy(2, 3), 40);
        isVersion("copy of 40", 3, like(4, 40));
    }

    private static void lineAt() {
        x = new PlayReader();
        version(0, 7, 8);
        due("lineAt(0, 0)", x.lineAt(0, 0), 7);
        due("lineAt(0, 1)", x.lineAt(0, 1), 8);
        for (int i : new int[] {-1, 2, 39, 40, 41, MIN, MAX}) {
            due("lineAt(0, " + i + ")", x.lineAt(0, i), NONE);
        }
        for (int bad : new int[] {-1, 8, MIN, MAX}) {
            due("lineAt(" + bad + ", 0)", x.lineAt(bad, 0), BAD);
            due("lineAt(" + bad + ", -1)", x.lineAt(bad, -1), BAD);
        }
        x.take(0, 1);
        due("lineAt(0, 1) behind take", x.lineAt(0, 1), NONE);
    }

    private static void differ() {
        x = new PlayReader();
        due("differ of none", x.differ(0, 1), 0);
        version(0, 1, 2, 3);
        due("differ from none", x.differ(0, 1), 3);
        due("differ of none from it", x.differ(1, 0), 3);
        due("differ from itself", x.differ(0, 0), 0);
        version(1, 3, 2, 1);
        due("differ of the row turned round", x.differ(0, 1), 4);
        version(1, 1, 4, 3);
        due("differ by another LINE: out and in are one each", x.differ(0, 1), 2);
        version(1, 0, 1, 2, 2, 3, 5);
        due("differ by three put in", x.differ(0, 1), 3);
        version(2, like(1, 40));
        version(3, like(2, 40));
        due("differ of 40 and 40", x.differ(2, 3), 80);
        version(3, like(1, 39));
        due("differ of 40 and 39", x.differ(2, 3), 1);
        for (int bad : new int[] {-1, 8, MIN, MAX}) {
            due("differ(" + bad + ", 0)", x.differ(bad, 0), BAD);
            due("differ(0, " + bad + ")", x.differ(0, bad), BAD);
        }
    }

    private static void step() {
        x = new PlayReader();
        steps(0, 1);
        version(0, 1, 2);
        steps(0, 1, 1, 1);
        steps(1, 0, 2, 2);
        steps(0, 0, 0, 0);
        version(1, 2, 1);
        steps(0, 1, 1, 0, 2);
        version(1, 3, 4);
        steps(0, 1, 1, 1, 2, 2);
        version(0, 1, 1);
        version(1, 1);
        steps(0, 1, 0, 1);
        steps(1, 0, 0, 2);
        version(0, 1, 2, 3);
        version(1, 3, 1, 2);
        steps(0, 1, 2, 0, 0, 1);
        version(0, like(1, 40));
        version(1, like(2, 40));
        due("step(0, 1, 39)", x.step(0, 1, 39), 1);
        due("step(0, 1, 40)", x.step(0, 1, 40), 2);
        due("step(0, 1, 79)", x.step(0, 1, 79), 2);
        due("step(0, 1, 80)", x.step(0, 1, 80), NONE);
        due("step(0, 0, 39)", x.step(0, 0, 39), 0);
        due("step(0, 0, 40)", x.step(0, 0, 40), NONE);
        for (int i : new int[] {-1, MIN, MAX}) {
            due("step(0, 1, " + i + ")", x.step(0, 1, i), NONE);
        }
        for (int bad : new int[] {-1, 8, MIN, MAX}) {
            due("step(" + bad + ", 0, 0)", x.step(bad, 0, 0), BAD);
            due("step(0, " + bad + ", 0)", x.step(0, bad, 0), BAD);
            due("step(0, " + bad + ", -1)", x.step(0, bad, -1), BAD);
        }
    }

    private static void condition() {
        x = new PlayReader();
        for (int sort = 0; sort < 7; sort++) {
            due("condition of sort " + sort, x.condition(sort, 99, 40), sort);
        }
        due("condition(1, 0, 0)", x.condition(1, 0, 0), 7);
        for (int bad : new int[] {-1, 7, MIN, MAX}) {
            due("condition of sort " + bad, x.condition(bad, 1, 1), BAD);
        }
        for (int sort = 0; sort < 7; sort++) {
            for (int bad : new int[] {-1, 100, MIN, MAX}) {
                due("condition(" + sort + ", " + bad + ", 1)", x.condition(sort, bad, 1), BAD);
                due("condition(" + sort + ", 1, " + bad + ")", x.condition(sort, 1, bad), BAD);
            }
        }
        due("condition(1, 1, 41)", x.condition(1, 1, 41), BAD);
        due("conditions", x.count(1), 8);
        due("condition(0, 1, 99)", x.condition(0, 1, 99), 8);
        due("condition(2, 1, 41)", x.condition(2, 1, 41), 9);
        due("condition(6, 0, 99)", x.condition(6, 0, 99), 10);
        due("the twelfth one", x.condition(4, 0, 0), 11);
        due("the thirteenth one", x.condition(4, 0, 0), FULL);
        due("a bad thirteenth one", x.condition(1, 0, 41), BAD);
        due("conditions", x.count(1), 12);
    }

    private static void clear() {
        x = new PlayReader();
        x.condition(0, 1, 0);
        x.condition(4, 1, 0);
        performance(0, 1);
        due("verdict", x.verdict(0), 2);
        due("clear()", x.clear(), 2);
        due("clear() of none", x.clear(), 0);
        due("verdict behind clear", x.verdict(0), 0);
        due("judge behind clear", x.judge(0, 0), BAD);
        due("count behind clear", x.count(1), 0);
        due("the numbers begin anew", x.condition(4, 1, 0), 0);
        due("by the new one", x.judge(0, 0), 0);
        due("by the old one", x.judge(0, 1), BAD);
        isPerformance("clear", 0, 1);
        for (int i = 1; i < 12; i++) {
            x.condition(0, 2, 2);
        }
        due("full", x.condition(0, 2, 2), FULL);
        due("clear() of twelve", x.clear(), 12);
        due("not full", x.condition(0, 2, 2), 0);
    }

    private static void breaks() {
        x = new PlayReader();
        version(0, 1, 2, 1, 3);
        due("breaks by none", x.breaks(0), NONE);
        x.condition(4, 3, 0);
        due("keeps ALWAYS", x.breaks(0), NONE);
        x.condition(1, 1, 2);
        due("keeps AT MOST", x.breaks(0), NONE);
        x.condition(2, 1, 2);
        due("breaks BEHIND", x.breaks(0), 2);
        x.condition(0, 1, 0);
        due("the first one", x.breaks(0), 2);
        due("none said", x.breaks(7), 0);
        for (int bad : new int[] {-1, 8, MIN, MAX}) {
            due("breaks(" + bad + ")", x.breaks(bad), BAD);
        }
        breaksBy(0, 5, 0, 1, 5);
        breaksBy(1, 5, 1, 0, 5);
        breaksBy(1, 5, 1, 1, 5, 6, 5);
        breaksBy(1, 5, 0, 1, 5);
        breaksBy(2, 5, 6, 0, 6, 5, 5);
        breaksBy(2, 5, 6, 0, 6, 7, 5);
        breaksBy(2, 5, 6, 1, 5, 6, 5);
        breaksBy(2, 5, 5, 1, 5, 5);
        breaksBy(2, 5, 5, 0, 6);
        breaksBy(3, 5, 6, 0, 5, 5);
        breaksBy(3, 5, 6, 0, 6, 7);
        breaksBy(3, 5, 6, 1, 5, 6);
        breaksBy(3, 5, 6, 1, 6, 7, 5);
        breaksBy(3, 5, 5, 1, 5);
        breaksBy(3, 5, 5, 0, 6);
        breaksBy(4, 5, 6, 0, 6, 5);
        breaksBy(4, 5, 6, 1, 6);
        breaksBy(4, 5, 6, 1);
        breaksBy(5, 5, 6, 0, 6, 5, 6, 5);
        breaksBy(5, 5, 6, 1, 6, 7, 5);
        breaksBy(5, 5, 6, 1, 6, 5, 5);
        breaksBy(5, 5, 6, 1, 5, 6, 5);
        breaksBy(5, 5, 6, 0, 6, 6, 5, 7);
        breaksBy(5, 5, 5, 1, 5, 5);
        breaksBy(6, 5, 6, 0, 6, 6, 5, 7, 5);
        breaksBy(6, 5, 6, 1, 5, 7, 6);
        breaksBy(6, 5, 6, 1, 6, 5, 6, 5);
        breaksBy(6, 5, 5, 0, 6, 5, 6);
        breaksBy(6, 5, 5, 1, 5, 6, 5);
    }

    private static void breaksBy(int sort, int line, int y, int want, int... lines) {
        PlayReader before = x;
        x = new PlayReader();
        x.condition(sort, line, y);
        version(3, lines);
        performance(2, lines);
        String by = "SORT " + sort + " x " + line + " y " + y + " of " + java.util.Arrays.toString(lines);
        due("breaks by " + by, x.breaks(3), want == 1 ? 0 : NONE);
        due("judge by " + by, x.judge(2, 0), want == 1 ? 2 : 0);
        x = before;
    }

    private static void hear() {
        x = new PlayReader();
        due("hear(3, 0)", x.hear(3, 0), 1);
        due("hear(3, 99)", x.hear(3, 99), 2);
        due("hear(3, NONE)", x.hear(3, NONE), 3);
        isPerformance("hear", 3, 0, 99, NONE);
        for (int bad : new int[] {-1, 4, MIN, MAX}) {
            due("hear(" + bad + ", 1)", x.hear(bad, 1), BAD);
        }
        for (int bad : new int[] {-2, 100, MIN, MAX}) {
            due("hear(3, " + bad + ")", x.hear(3, bad), BAD);
        }
        isPerformance("hear refused", 3, 0, 99, NONE);
        performance(0, like(NONE, 40));
        due("hear of 41", x.hear(0, NONE), FULL);
        due("hear of 41", x.hear(0, 1), FULL);
        due("hear of 41, bad", x.hear(0, 100), BAD);
        isPerformance("hear of 41", 0, like(NONE, 40));
    }

    private static void forget() {
        x = new PlayReader();
        performance(0, 1, NONE);
        performance(1, 2);
        due("forget(0)", x.forget(0), 2);
        due("forget(0) again", x.forget(0), 0);
        isPerformance("forget", 0);
        isPerformance("forget elsewhere", 1, 2);
        due("hear behind forget", x.hear(0, 5), 1);
        isPerformance("hear behind forget", 0, 5);
        for (int bad : new int[] {-1, 4, MIN, MAX}) {
            due("forget(" + bad + ")", x.forget(bad), BAD);
        }
    }

    private static void heard() {
        x = new PlayReader();
        due("heard of nothing", x.heard(0, 0), BAD);
        performance(0, 5, NONE, 6);
        isPerformance("heard", 0, 5, NONE, 6);
        for (int bad : new int[] {-1, 3, 40, MIN, MAX}) {
            due("heard(0, " + bad + ")", x.heard(0, bad), BAD);
        }
        for (int bad : new int[] {-1, 4, MIN, MAX}) {
            due("heard(" + bad + ", 0)", x.heard(bad, 0), BAD);
        }
    }

    private static void judge() {
        x = new PlayReader();
        x.condition(4, 1, 0);
        x.condition(0, 1, 0);
        due("nothing heard: ALWAYS", x.judge(0, 0), 2);
        due("nothing heard: NEVER", x.judge(0, 1), 0);
        performance(0, NONE);
        due("a GAP: ALWAYS", x.judge(0, 0), 1);
        due("a GAP: NEVER", x.judge(0, 1), 1);
        performance(0, NONE, 1, NONE);
        due("heard: ALWAYS", x.judge(0, 0), 0);
        due("heard: NEVER", x.judge(0, 1), 2);
        for (int bad : new int[] {-1, 2, 12, MIN, MAX}) {
            due("judge(0, " + bad + ")", x.judge(0, bad), BAD);
        }
        for (int bad : new int[] {-1, 4, MIN, MAX}) {
            due("judge(" + bad + ", 0)", x.judge(bad, 0), BAD);
        }
    }

    private static void judgeBy(int sort, int line, int y, int want, int... things) {
        x = new PlayReader();
        x.condition(sort, line, y);
        performance(1, things);
        String by = "SORT " + sort + " x " + line + " y " + y + " of " + java.util.Arrays.toString(things);
        due("judge by " + by, x.judge(1, 0), want);
        due("verdict by " + by, x.verdict(1), want);
        isPerformance("judge changes nothing", 1, things);
    }

    private static void judgeGaps() {
        judgeBy(2, 5, 6, 0, 6, NONE, 5);
        judgeBy(2, 5, 6, 0, 7, 6, NONE);
        judgeBy(2, 5, 6, 1, NONE, 6, 5);
        judgeBy(2, 5, 6, 1, NONE, 5);
        judgeBy(2, 5, 6, 2, 5, NONE, 6);
        judgeBy(2, 5, 5, 2, NONE, 5);
        judgeBy(2, 5, 5, 1, 6, NONE);
        judgeBy(3, 5, 6, 2, 5, NONE, 6);
        judgeBy(3, 5, 6, 1, 5, NONE);
        judgeBy(3, 5, 6, 1, NONE, 6);
        judgeBy(3, 5, 6, 1, NONE, 7);
        judgeBy(3, 5, 5, 2, NONE, 5);
        judgeBy(3, 5, 5, 1, NONE);
        judgeBy(5, 5, 6, 1, NONE, 5);
        judgeBy(5, 5, 6, 1, 6, NONE, 5);
        judgeBy(5, 5, 6, 1, 7, NONE, 5);
        judgeBy(5, 5, 6, 2, 5, NONE, 5);
        judgeBy(5, 5, 6, 2, NONE, 7, 5);
        judgeBy(5, 5, 6, 1, NONE, 6, 5);
        judgeBy(5, 5, 5, 2, NONE, 5);
        judgeBy(5, 5, 5, 1, NONE, 6);
        judgeBy(6, 5, 6, 2, 5, NONE, 6);
        judgeBy(6, 5, 6, 1, 5, NONE);
        judgeBy(6, 5, 6, 1, NONE, 6);
        judgeBy(6, 5, 6, 1, NONE, 5);
        judgeBy(6, 5, 5, 1, NONE, 5);
        judgeBy(6, 5, 5, 2, 5, NONE, 5);
        judgeBy(4, 5, 5, 1, NONE, NONE);
        judgeBy(0, 5, 5, 1, NONE, NONE);
    }

    private static void judgeAtMost() {
        judgeBy(1, 5, 0, 0, 6, 7);
        judgeBy(1, 5, 0, 2, 6, 5);
        judgeBy(1, 5, 2, 1, NONE, 5, 5);
        judgeBy(1, 5, 2, 2, 5, NONE, 5, 5);
        judgeBy(1, 5, 2, 1, NONE);
        judgeBy(1, 5, 40, 0, like(5, 40));
        judgeBy(1, 5, 39, 2, like(5, 40));
        judgeBy(1, 5, 39, 0, like(5, 39));
        judgeBy(1, 5, 40, 1, NONE);
        int[] things = like(5, 40);
        things[20] = NONE;
        judgeBy(1, 5, 40, 1, things);
        judgeBy(1, 5, 39, 1, things);
        judgeBy(1, 5, 38, 2, things);
        judgeBy(1, 5, 40, 1, like(NONE, 40));
    }

    private static void verdict() {
        x = new PlayReader();
        performance(0, 1, NONE);
        due("by none", x.verdict(0), 0);
        x.condition(4, 1, 0);
        due("KEPT", x.verdict(0), 0);
        x.condition(0, 2, 0);
        due("one DOUBT", x.verdict(0), 1);
        x.condition(4, 1, 1);
        due("one DOUBT among KEPT ones", x.verdict(0), 1);
        x.condition(0, 1, 0);
        due("one BREACH", x.verdict(0), 2);
        x.condition(0, 3, 0);
        due("a BREACH, then a DOUBT", x.verdict(0), 2);
        due("nothing heard", x.verdict(1), 2);
        for (int bad : new int[] {-1, 4, MIN, MAX}) {
            due("verdict(" + bad + ")", x.verdict(bad), BAD);
        }
        x = new PlayReader();
        // Two DOUBTS that no row keeps together are no BREACH: each CONDITION is judged alone.
        x.condition(4, 1, 0);
        x.condition(0, 1, 0);
        performance(0, NONE);
        due("two DOUBTS", x.verdict(0), 1);
    }

    private static void both() {
        x = new PlayReader();
        performance(0, 1, NONE, 3, 4, NONE);
        performance(1, 1, 2, NONE, 5, NONE);
        performance(2, 9);
        due("both(0, 1, 2)", x.both(0, 1, 2), 1);
        isPerformance("both", 2, 1, 2, 3, NONE, NONE);
        isPerformance("both leaves the one", 0, 1, NONE, 3, 4, NONE);
        isPerformance("both leaves the other one", 1, 1, 2, NONE, 5, NONE);
        due("both(1, 0, 3)", x.both(1, 0, 3), 1);
        isPerformance("both turned round", 3, 1, 2, 3, NONE, NONE);
        due("both(0, 0, 3)", x.both(0, 0, 3), 0);
        isPerformance("both of one", 3, 1, NONE, 3, 4, NONE);
        due("both(0, 1, 0)", x.both(0, 1, 0), 1);
        isPerformance("both to the first", 0, 1, 2, 3, NONE, NONE);
        performance(0, 7, NONE, 8, 9, 9);
        due("both(0, 1, 1)", x.both(0, 1, 1), 2);
        isPerformance("both to the second", 1, NONE, 2, 8, NONE, 9);
        performance(3, 1);
        due("unlike many", x.both(0, 3, 2), NO);
        due("unlike many", x.both(3, 0, 3), NO);
        isPerformance("unlike many", 3, 1);
        for (int bad : new int[] {-1, 4, MIN, MAX}) {
            due("both(" + bad + ", 3, 0)", x.both(bad, 3, 0), BAD);
            due("both(0, " + bad + ", 0)", x.both(0, bad, 0), BAD);
            due("both(0, 3, " + bad + ")", x.both(0, 3, bad), BAD);
        }
        x = new PlayReader();
        performance(2, 1, 2);
        due("both of nothing", x.both(0, 1, 2), 0);
        isPerformance("both of nothing", 2);
        performance(0, like(1, 40));
        performance(1, like(2, 40));
        due("both of 40", x.both(0, 1, 3), 40);
        isPerformance("both of 40", 3, like(NONE, 40));
    }

    private static void mayBe(int want, int[] things, int... lines) {
        performance(3, things);
        version(6, lines);
        String what = java.util.Arrays.toString(things) + " and " + java.util.Arrays.toString(lines);
        due("may of " + what, x.may(3, 6), want);
    }

    private static void may() {
        x = new PlayReader();
        due("nothing of none", x.may(0, 0), 1);
        mayBe(0, new int[] {}, 1);
        mayBe(0, new int[] {1});
        mayBe(1, new int[] {NONE});
        mayBe(1, new int[] {NONE, NONE}, 1);
        mayBe(1, new int[] {NONE}, 1, 2, 3);
        mayBe(1, new int[] {1, 2}, 1, 2);
        mayBe(0, new int[] {1, 2}, 2, 1);
        mayBe(0, new int[] {1, 2}, 1, 2, 3);
        mayBe(0, new int[] {1, 2, 3}, 1, 2);
        mayBe(1, new int[] {1, NONE, 2}, 1, 2);
        mayBe(1, new int[] {1, NONE, 2}, 1, 2, 3, 2);
        mayBe(0, new int[] {1, NONE, 2}, 1, 2, 3);
        mayBe(0, new int[] {1, NONE, 1}, 1);
        x = new PlayReader();
        mayBe(1, new int[] {NONE, 1, 2, NONE}, 1, 1, 2, 5);
        mayBe(0, new int[] {NONE, 2, NONE, 1, NONE}, 1, 1, 2, 5);
        mayBe(1, new int[] {NONE, 1, NONE, 1, 2}, 1, 2, 1, 1, 2);
        mayBe(1, like(1, 40), like(1, 40));
        x = new PlayReader();
        mayBe(1, like(NONE, 40), like(1, 40));
        x = new PlayReader();
        mayBe(0, like(1, 39), like(1, 40));
        for (int bad : new int[] {-1, 4, MIN, MAX}) {
            due("may(" + bad + ", 0)", x.may(bad, 0), BAD);
        }
        for (int bad : new int[] {-1, 8, MIN, MAX}) {
            due("may(0, " + bad + ")", x.may(0, bad), BAD);
        }
    }

    private static void mark() {
        x = new PlayReader();
        due("mark(0, 255)", x.mark(0, 255), 0);
        due("mark(0, 3)", x.mark(0, 3), 255);
        due("mark(99, 128)", x.mark(99, 128), 0);
        due("mark(99, 0)", x.mark(99, 0), 128);
        for (int bad : new int[] {-1, 100, MIN, MAX}) {
            due("mark(" + bad + ", 1)", x.mark(bad, 1), BAD);
        }
        for (int bad : new int[] {-1, 256, MIN, MAX}) {
            due("mark(0, " + bad + ")", x.mark(0, bad), BAD);
        }
        due("mark(0, 0) behind refusals", x.mark(0, 0), 3);
    }

    private static void rule() {
        x = new PlayReader();
        due("rule(0, 0, 0, 0)", x.rule(0, 0, 0, 0), 0);
        due("rule(7, 255, 0, 999)", x.rule(7, 255, 0, 999), 1);
        due("rule(7, 1, 999, 999)", x.rule(7, 1, 999, 999), 2);
        for (int bad : new int[] {-1, 8, MIN, MAX}) {
            due("rule(" + bad + ", 1, 1, 2)", x.rule(bad, 1, 1, 2), BAD);
        }
        for (int bad : new int[] {-1, 256, MIN, MAX}) {
            due("rule(1, " + bad + ", 1, 2)", x.rule(1, bad, 1, 2), BAD);
        }
        for (int bad : new int[] {-1, 1000, MIN, MAX}) {
            due("rule(1, 1, " + bad + ", 999)", x.rule(1, 1, bad, 999), BAD);
            due("rule(1, 1, 0, " + bad + ")", x.rule(1, 1, 0, bad), BAD);
        }
        due("from above to", x.rule(1, 1, 2, 1), BAD);
        due("rules", x.count(4), 3);
        for (int i = 3; i < 20; i++) {
            due("rule " + i, x.rule(1, 1, 1, 1), i);
        }
        due("rule 20", x.rule(1, 1, 1, 1), FULL);
        due("rule 20, bad", x.rule(1, 1, 2, 1), BAD);
        due("rules", x.count(4), 20);
    }

    private static void cut() {
        x = new PlayReader();
        version(2, 10, 11, 10, 12);
        x.mark(10, 1);
        x.mark(11, 6);
        x.rule(3, 1, 5, 9);
        x.rule(3, 2, 9, 10);
        x.rule(4, 255, 0, 999);
        int[] days = {0, 4, 5, 8, 9, 10, 11, 999};
        int[] cuts = {0, 0, 2, 2, 3, 1, 0, 0};
        for (int i = 0; i < days.length; i++) {
            due("cut(2, 3, " + days[i] + ")", x.cut(2, 3, days[i]), cuts[i]);
            due("cut(2, 4, " + days[i] + ")", x.cut(2, 4, days[i]), 3);
            due("cut(2, 5, " + days[i] + ")", x.cut(2, 5, days[i]), 0);
        }
        due("cut of none", x.cut(0, 4, 0), 0);
        x.rule(3, 0, 100, 200);
        due("a RULE of no MARKS", x.cut(2, 3, 150), 0);
        for (int bad : new int[] {-1, 8, MIN, MAX}) {
            due("cut(" + bad + ", 3, 5)", x.cut(bad, 3, 5), BAD);
            due("cut(2, " + bad + ", 5)", x.cut(2, bad, 5), BAD);
        }
        for (int bad : new int[] {-1, 1000, MIN, MAX}) {
            due("cut(2, 3, " + bad + ")", x.cut(2, 3, bad), BAD);
        }
        x.mark(10, 0);
        due("MARKS that have gone", x.cut(2, 3, 9), 1);
    }

    private static void fit() {
        x = new PlayReader();
        version(0, 10, 11, 10, 12, 13);
        version(1, like(1, 40));
        x.mark(10, 1);
        x.mark(12, 2);
        x.rule(0, 1, 5, 5);
        x.rule(0, 2, 5, 5);
        due("fit(0, 0, 5, 1)", x.fit(0, 0, 5, 1), 2);
        isVersion("fit", 1, 11, 13);
        isVersion("fit leaves it", 0, 10, 11, 10, 12, 13);
        due("fit(0, 0, 6, 2)", x.fit(0, 0, 6, 2), 5);
        isVersion("fit with nothing CUT", 2, 10, 11, 10, 12, 13);
        due("fit(0, 0, 5, 0)", x.fit(0, 0, 5, 0), 2);
        isVersion("fit to itself", 0, 11, 13);
        for (int bad : new int[] {-1, 8, MIN, MAX}) {
            due("fit(" + bad + ", 0, 5, 0)", x.fit(bad, 0, 5, 0), BAD);
            due("fit(2, " + bad + ", 5, 0)", x.fit(2, bad, 5, 0), BAD);
            due("fit(2, 0, 5, " + bad + ")", x.fit(2, 0, 5, bad), BAD);
        }
        for (int bad : new int[] {-1, 1000, MIN, MAX}) {
            due("fit(2, 0, " + bad + ", 2)", x.fit(2, 0, bad, 2), BAD);
        }
        isVersion("fit refused", 2, 10, 11, 10, 12, 13);
        version(3, like(10, 40));
        due("fit of 40", x.fit(3, 0, 5, 3), 0);
        isVersion("fit of 40", 3);
    }

    private static void isTour(String when, int... towns) {
        for (int i = 0; i < towns.length; i++) {
            due(when + ": town(" + i + ")", x.town(i), towns[i]);
        }
        due(when + ": town behind the last one", x.town(towns.length), NONE);
    }

    private static void tour() {
        x = new PlayReader();
        due("tour of all", x.tour(0, 255, 0, 0), 0);
        isTour("nothing CUT", 0, 1, 2, 3, 4, 5, 6, 7);
        due("tour of one", x.tour(0, 128, 999, 20), 0);
        isTour("one", 7);
        due("tour to the last day", x.tour(0, 3, 978, 20), 0);
        isTour("to the last day", 0, 1);
        due("tour behind the last day", x.tour(0, 12, 979, 20), NO);
        isTour("tour refused", 0, 1);
        due("eight towns to the last day", x.tour(0, 255, 992, 0), 0);
        due("eight towns behind it", x.tour(0, 255, 993, 0), NO);
        due("eight towns with most rest", x.tour(0, 255, 852, 20), 0);
        due("eight towns with most rest behind it", x.tour(0, 255, 853, 20), NO);
        due("before tours refused", x.tour(0, 20, 1, 1), 0);
        for (int bad : new int[] {-1, 8, MIN, MAX}) {
            due("tour(" + bad + ", 1, 0, 0)", x.tour(bad, 1, 0, 0), BAD);
        }
        for (int bad : new int[] {-1, 0, 256, MIN, MAX}) {
            due("tour(0, " + bad + ", 0, 0)", x.tour(0, bad, 0, 0), BAD);
        }
        for (int bad : new int[] {-1, 1000, MIN, MAX}) {
            due("tour(0, 1, " + bad + ", 0)", x.tour(0, 1, bad, 0), BAD);
        }
        for (int bad : new int[] {-1, 21, MIN, MAX}) {
            due("tour(0, 1, 0, " + bad + ")", x.tour(0, 1, 0, bad), BAD);
            due("tour(0, 255, 999, " + bad + ")", x.tour(0, 255, 999, bad), BAD);
        }
        isTour("tours refused", 2, 4);
    }

    private static void tourOrders() {
        x = new PlayReader();
        version(0, 1, 1, 2);
        x.mark(1, 1);
        x.mark(2, 2);
        x.rule(0, 3, 0, 5);
        x.rule(1, 1, 6, 20);
        x.rule(2, 2, 3, 3);
        due("tour(0, 7, 3, 2)", x.tour(0, 7, 3, 2), 0);
        isTour("of like ones the first", 1, 0, 2);
        due("tour(0, 3, 5, 0)", x.tour(0, 3, 5, 0), 0);
        isTour("turned round", 1, 0);
        due("tour(0, 3, 4, 0)", x.tour(0, 3, 4, 0), 3);
        isTour("none is free of cuts", 0, 1);
        due("with rest between", x.tour(0, 3, 4, 1), 0);
        isTour("with rest between", 1, 0);
        due("behind all rules", x.tour(0, 7, 21, 0), 0);
        isTour("behind all rules", 0, 1, 2);
        x.take(0, 0);
        isTour("the TOUR stays", 0, 1, 2);
        x.copy(0, 4);
        due("LINES CUT each time they are there", x.tour(4, 1, 0, 0), 2);
    }

    private static void town() {
        x = new PlayReader();
        for (int i : new int[] {-1, 0, 1, MIN, MAX}) {
            due("town(" + i + ") of none", x.town(i), NONE);
        }
        x.tour(0, 130, 0, 0);
        isTour("town", 1, 7);
        for (int i : new int[] {-1, 2, 7, 8, 40, MIN, MAX}) {
            due("town(" + i + ")", x.town(i), NONE);
        }
        x.tour(0, 0, 0, 0);
        x.tour(0, 255, 999, 0);
        isTour("the latest that was found", 1, 7);
        x.tour(0, 32, 0, 0);
        isTour("the latest", 5);
    }

    private static void free() {
        x = new PlayReader();
        due("free of no rules", x.free(0, 0, 999), 999);
        version(0, 1, 2);
        x.mark(1, 1);
        x.mark(2, 6);
        x.mark(3, 8);
        x.rule(0, 1, 5, 9);
        x.rule(0, 2, 10, 12);
        x.rule(0, 4, 14, 14);
        x.rule(0, 4, 11, 11);
        x.rule(0, 8, 0, 999);
        x.rule(1, 255, 990, 999);
        x.rule(1, 255, 0, 500);
        int[] days = {0, 4, 5, 9, 10, 12, 13, 14, 15, 999};
        int[] wants = {0, 4, 13, 13, 13, 13, 13, 15, 15, 999};
        for (int i = 0; i < days.length; i++) {
            due("free(0, 0, " + days[i] + ")", x.free(0, 0, days[i]), wants[i]);
            due("free(0, 7, " + days[i] + ")", x.free(0, 7, days[i]), days[i]);
        }
        due("free(0, 1, 0)", x.free(0, 1, 0), 501);
        due("free(0, 1, 989)", x.free(0, 1, 989), 989);
        due("free(0, 1, 990)", x.free(0, 1, 990), NONE);
        due("free(0, 1, 999)", x.free(0, 1, 999), NONE);
        due("free of none", x.free(1, 1, 0), 0);
        version(1, 3);
        due("free(1, 0, 0)", x.free(1, 0, 0), NONE);
        for (int bad : new int[] {-1, 8, MIN, MAX}) {
            due("free(" + bad + ", 0, 0)", x.free(bad, 0, 0), BAD);
            due("free(0, " + bad + ", 0)", x.free(0, bad, 0), BAD);
        }
        for (int bad : new int[] {-1, 1000, MIN, MAX}) {
            due("free(0, 0, " + bad + ")", x.free(0, 0, bad), BAD);
        }
        x = new PlayReader();
        version(0, 1);
        x.mark(1, 1);
        for (int i = 19; i >= 0; i--) {
            x.rule(6, 1, 2 * i, 2 * i + 1);
        }
        due("free behind twenty rules", x.free(0, 6, 0), 40);
    }

    private static void count() {
        x = new PlayReader();
        version(0, 1, 2, 3);
        version(7, 4);
        x.condition(0, 1, 1);
        x.condition(0, 1, 1);
        performance(0, 1, NONE, NONE);
        performance(3, NONE, 2, 3);
        x.rule(0, 1, 1, 1);
        x.rule(0, 1, 1, 1);
        x.rule(0, 1, 1, 1);
        int[] wants = {4, 2, 6, 3, 3};
        for (int what = 0; what < 5; what++) {
            due("count(" + what + ")", x.count(what), wants[what]);
        }
        for (int bad : new int[] {-1, 5, MIN, MAX}) {
            due("count(" + bad + ")", x.count(bad), BAD);
        }
        x.take(0, 0);
        x.clear();
        x.forget(0);
        int[] later = {3, 0, 3, 1, 3};
        for (int what = 0; what < 5; what++) {
            due("count(" + what + ") later", x.count(what), later[what]);
        }
    }

    private static long mixed(long h, long... values) {
        for (long v : values) {
            h = 31 * h + v;
        }
        return h;
    }

    private static void digest() {
        x = new PlayReader();
        long empty = mixed(mixed(181, new long[5 + 8 + 4]), new long[100]);
        due("new: digest()", x.digest(), empty);
        version(1, 5, 6);
        performance(0, 7, NONE);
        performance(3, 8);
        x.mark(0, 200);
        x.mark(99, 3);
        x.rule(2, 4, 6, 8);
        x.rule(1, 3, 5, 7);
        x.condition(1, 20, 30);
        x.condition(6, 40, 50);
        long h = mixed(181, 2, 2, 3, 1, 2);
        h = mixed(h, 0, 2, 5, 6, 0, 0, 0, 0, 0, 0);
        h = mixed(h, 2, 7, -1, 0, 0, 1, 8);
        h = mixed(h, 200);
        h = mixed(h, new long[98]);
        h = mixed(h, 3);
        h = mixed(h, 2, 4, 6, 8, 1, 3, 5, 7);
        h = mixed(h, 1, 20, 30, 6, 40, 50);
        due("digest()", x.digest(), h);
        x.tour(1, 3, 0, 0);
        x.differ(0, 1);
        x.verdict(0);
        x.free(1, 2, 6);
        x.cut(1, 2, 6);
        x.may(0, 1);
        x.breaks(1);
        due("what only asks changes nothing", x.digest(), h);
        x.put(1, 3, 5);
        x.put(8, 0, 5);
        x.take(1, 2);
        x.copy(1, 8);
        x.condition(1, 1, 41);
        x.hear(0, 100);
        x.forget(4);
        x.both(0, 3, 1);
        x.both(0, 0, 4);
        x.mark(100, 1);
        x.mark(1, 256);
        x.rule(1, 1, 2, 1);
        x.fit(1, 2, 1000, 0);
        x.tour(1, 3, 999, 0);
        due("what is refused changes nothing", x.digest(), h);
    }
}
