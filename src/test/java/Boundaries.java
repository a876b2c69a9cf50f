import java.util.Arrays;

/**
 * What the tests of the document's sentences share. Each of them begins with of(..), which quotes its sentence and
 * makes a new object; what it prints of an answer that is not due begins with the quotation.
 */
final class Boundaries {
    static final int NONE = PlayReader.NONE;
    static final int BAD = PlayReader.BAD;
    static final int NO = PlayReader.NO;
    static final int FULL = PlayReader.FULL;
    static final int MIN = Integer.MIN_VALUE;
    static final int MAX = Integer.MAX_VALUE;

    interface Call {
        int on(PlayReader x);
    }

    interface CallWithNumber {
        int on(PlayReader x, int number);
    }

    final Check check;
    PlayReader x;
    private final Document document;
    private String sentence = "";

    Boundaries(Check check, Document document) {
        this.check = check;
        this.document = document;
    }

    void of(int promise, String quotation) {
        begin("Promise " + promise, quotation);
    }

    void ofTerms(String quotation) {
        begin("Terms", quotation);
    }

    private void begin(String section, String quotation) {
        x = new PlayReader();
        sentence = section + ", \"" + quotation + "\": ";
        check.holds(sentence + "stands in the document", document.has(section, quotation));
    }

    void due(String call, long got, long want) {
        check.due(sentence + call, got, want);
    }

    // ---- rows

    static int[] like(int line, int times) {
        int[] lines = new int[times];
        Arrays.fill(lines, line);
        return lines;
    }

    static int[] row(int... things) {
        return things;
    }

    static int[] joined(int[] first, int... second) {
        int[] lines = Arrays.copyOf(first, first.length + second.length);
        System.arraycopy(second, 0, lines, first.length, second.length);
        return lines;
    }

    /** A VERSION becomes these LINES. */
    void version(int version, int... lines) {
        while (x.take(version, 0) != BAD) {
            continue;
        }
        for (int i = 0; i < lines.length; i++) {
            due("put(" + version + ", " + i + ", " + lines[i] + ")", x.put(version, i, lines[i]), i + 1);
        }
    }

    void isVersion(int version, int... lines) {
        for (int i = 0; i < lines.length; i++) {
            due("lineAt(" + version + ", " + i + ")", x.lineAt(version, i), lines[i]);
        }
        due("lineAt(" + version + ", " + lines.length + ")", x.lineAt(version, lines.length), NONE);
    }

    /** These things and no others are heard in a PERFORMANCE. */
    void performance(int performance, int... things) {
        x.forget(performance);
        for (int i = 0; i < things.length; i++) {
            due("hear(" + performance + ", " + things[i] + ")", x.hear(performance, things[i]), i + 1);
        }
    }

    void isPerformance(int performance, int... things) {
        for (int i = 0; i < things.length; i++) {
            due("heard(" + performance + ", " + i + ")", x.heard(performance, i), things[i]);
        }
        due("heard(" + performance + ", " + things.length + ")", x.heard(performance, things.length), BAD);
    }

    void isTour(int... towns) {
        for (int i = 0; i < towns.length; i++) {
            due("town(" + i + ")", x.town(i), towns[i]);
        }
        due("town(" + towns.length + ")", x.town(towns.length), NONE);
    }

    void counts(int lines, int conditions, int things, int gaps, int rules) {
        due("count(0)", x.count(0), lines);
        due("count(1)", x.count(1), conditions);
        due("count(2)", x.count(2), things);
        due("count(3)", x.count(3), gaps);
        due("count(4)", x.count(4), rules);
    }

    // ---- refusals

    /** A new object with something of everything, so that each call has good numbers to be asked with. */
    static PlayReader someOfAll() {
        PlayReader some = new PlayReader();
        int[][] lines = {{1, 2, 3}, {2, 3, 4, 2}, {}, {}, {}, {}, {}, {99, 0}};
        for (int v = 0; v < lines.length; v++) {
            for (int i = 0; i < lines[v].length; i++) {
                some.put(v, i, lines[v][i]);
            }
        }
        int[][] things = {{1, NONE, 3}, {}, {5}, {0, NONE, 99}};
        for (int p = 0; p < things.length; p++) {
            for (int thing : things[p]) {
                some.hear(p, thing);
            }
        }
        some.condition(0, 4, 0);
        some.condition(4, 1, 0);
        some.mark(1, 1);
        some.mark(99, 2);
        some.rule(0, 1, 5, 9);
        some.rule(7, 2, 0, 999);
        some.tour(0, 129, 5, 0);
        return some;
    }

    private static String towns(PlayReader some) {
        StringBuilder towns = new StringBuilder();
        for (int i = 0; i <= 8; i++) {
            towns.append(some.town(i)).append(' ');
        }
        return towns.toString();
    }

    /** The call is refused by this number, and leaves the object as it was. */
    void refused(int want, String name, Call call) {
        refused(want, name, x, call);
    }

    private void refused(int want, String name, PlayReader on, Call call) {
        long digest = on.digest();
        String towns = towns(on);
        due(name, call.on(on), want);
        due("digest() behind " + name, on.digest(), digest);
        check.holds(sentence + "the TOUR stays behind " + name, towns(on).equals(towns));
    }

    /** A number of a call is taken from low to high, and BAD on both sides of that, on an object with some of all. */
    void taken(int low, int high, String name, CallWithNumber call) {
        for (int number : new int[] {low, high}) {
            int got = call.on(someOfAll(), number);
            check.holds(sentence + name + " with " + number + " is taken, answered " + got, got >= NONE);
        }
        for (int number : new int[] {low - 1, high + 1, low - 40, high + 256, MIN, MAX}) {
            refused(BAD, name + " with " + number, someOfAll(), on -> call.on(on, number));
        }
    }
}
