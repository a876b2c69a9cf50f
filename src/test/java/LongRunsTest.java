import java.util.List;

/** Runs of 512 calls, the same ones each time, held against the slow reader: each answer, and often the digest. */
public final class LongRunsTest {
    private static final int NONE = -1;
    private static final int BAD = -2;
    private static final int NO = -3;
    private static final int FULL = -4;
    private static final int RUNS = 400;
    private static final int CALLS = 512;
    private static final int MOST_GAPS_JUDGED = 3;

    private static Check check;
    private static long seed;
    private static PlayReader x;
    private static SlowReader slow;
    private static int lines;
    private static String call;

    public static void main(String[] args) {
        check = new Check("LongRunsTest");
        for (int run = 0; run < RUNS; run++) {
            seed = run;
            x = new PlayReader();
            slow = new SlowReader();
            int[] manyLines = {2, 4, 10, 100};
            lines = manyLines[run % 4];
            for (int n = 0; n < CALLS; n += 2) {
                String at = "run " + run + ", call " + n + ": ";
                long[] answers = someCall();
                check.due(at + call, answers[0], answers[1]);
                check.due(at + "digest() behind " + call, x.digest(), slow.digest());
            }
        }
        check.end();
    }

    /** A number from 0 to below the bound; the tests have no random source, but a row of numbers of their own. */
    private static int below(int bound) {
        seed = seed * 6364136223846793005L + 1442695040888963407L;
        return (int) ((seed >>> 33) % bound);
    }

    /** Mostly good: 0 to below the bound; at times one just beside it, or far off. */
    private static int number(int bound) {
        int[] bads = {-1, bound, -2, Integer.MAX_VALUE, Integer.MIN_VALUE};
        return below(60) == 0 ? bads[below(5)] : below(bound);
    }

    private static boolean in(int i, int bound) {
        return i >= 0 && i < bound;
    }

    private static long[] pair(long got, long want) {
        return new long[] {got, want};
    }

    private static void say(String name, int... numbers) {
        call = name + java.util.Arrays.toString(numbers);
    }

    private static long[] someCall() {
        int kind = below(40);
        if (kind < 18) {
            return aChange(kind);
        }
        return kind < 30 ? aQuestion(kind) : aTour(kind);
    }

    private static long[] aChange(int kind) {
        int v = number(8);
        int line = number(lines);
        if (kind < 6) {
            int size = in(v, 8) ? slow.versions.get(v).size() : 0;
            int i = number(size + 1);
            say("put", v, i, line);
            int want = BAD;
            if (in(v, 8) && in(i, size + 1) && in(line, 100)) {
                want = FULL;
                if (size < 40) {
                    slow.versions.get(v).add(i, line);
                    want = size + 1;
                }
            }
            return pair(x.put(v, i, line), want);
        }
        if (kind < 8) {
            int size = in(v, 8) ? slow.versions.get(v).size() : 0;
            int i = number(size + 1);
            say("take", v, i);
            return pair(x.take(v, i), in(i, size) ? slow.versions.get(v).remove(i) : BAD);
        }
        if (kind == 8) {
            int to = number(8);
            say("copy", v, to);
            int want = BAD;
            if (in(v, 8) && in(to, 8)) {
                slow.versions.set(to, new java.util.ArrayList<>(slow.versions.get(v)));
                want = slow.versions.get(to).size();
            }
            return pair(x.copy(v, to), want);
        }
        if (kind < 13) {
            return aHear();
        }
        if (kind < 15) {
            return aCondition();
        }
        if (kind == 15) {
            int marks = number(256);
            say("mark", line, marks);
            int want = BAD;
            if (in(line, 100) && in(marks, 256)) {
                want = slow.marks[line];
                slow.marks[line] = marks;
            }
            return pair(x.mark(line, marks), want);
        }
        return kind == 16 ? aRule() : aForget();
    }

    private static long[] aHear() {
        int p = number(4);
        int thing = below(6) == 0 ? NONE : number(lines);
        say("hear", p, thing);
        int want = BAD;
        if (in(p, 4) && thing >= NONE && thing < 100) {
            want = FULL;
            if (slow.performances.get(p).size() < 40) {
                slow.performances.get(p).add(thing);
                want = slow.performances.get(p).size();
            }
        }
        return pair(x.hear(p, thing), want);
    }

    private static long[] aForget() {
        if (below(3) == 0) {
            call = "clear";
            int conditions = slow.conditions.size();
            slow.conditions.clear();
            return pair(x.clear(), conditions);
        }
        int p = number(4);
        say("forget", p);
        int want = BAD;
        if (in(p, 4)) {
            want = slow.performances.get(p).size();
            slow.performances.get(p).clear();
        }
        return pair(x.forget(p), want);
    }

    private static long[] aCondition() {
        int sort = number(7);
        int line = number(lines);
        int y = number(sort == 1 ? 41 : lines);
        say("condition", sort, line, y);
        int want = BAD;
        if (in(sort, 7) && in(line, 100) && in(y, sort == 1 ? 41 : 100)) {
            want = FULL;
            if (slow.conditions.size() < 12) {
                want = slow.conditions.size();
                slow.conditions.add(new int[] {sort, line, y});
            }
        }
        return pair(x.condition(sort, line, y), want);
    }

    private static long[] aRule() {
        int town = number(8);
        int marks = below(4) == 0 ? number(256) : 1 << below(8);
        int days = below(2) == 0 ? 30 : 1000;
        int from = number(days);
        int to = below(3) == 0 ? from : number(days);
        say("rule", town, marks, from, to);
        int want = BAD;
        if (in(town, 8) && in(marks, 256) && in(from, 1000) && in(to, 1000) && from <= to) {
            want = FULL;
            if (slow.rules.size() < 20) {
                want = slow.rules.size();
                slow.rules.add(new int[] {town, marks, from, to});
            }
        }
        return pair(x.rule(town, marks, from, to), want);
    }

    private static long[] aQuestion(int kind) {
        int a = number(8);
        int b = number(8);
        int p = number(4);
        int q = number(4);
        if (kind < 21) {
            boolean good = in(a, 8) && in(b, 8);
            String steps = good ? SlowReader.changes(slow.versions.get(a), slow.versions.get(b)) : "";
            if (kind == 18) {
                say("differ", a, b);
                return pair(x.differ(a, b), good ? SlowReader.changed(steps) : BAD);
            }
            int i = number(steps.length() + 1);
            say("step", a, b, i);
            int step = in(i, steps.length()) ? steps.charAt(i) - '0' : NONE;
            return pair(x.step(a, b, i), good ? step : BAD);
        }
        switch (kind) {
            case 21: {
                int i = number(41);
                say("lineAt", a, i);
                List<Integer> row = in(a, 8) ? slow.versions.get(a) : null;
                return pair(x.lineAt(a, i), row == null ? BAD : in(i, row.size()) ? row.get(i) : NONE);
            }
            case 22:
                say("breaks", a);
                return pair(x.breaks(a), in(a, 8) ? slow.breaks(a) : BAD);
            case 23: {
                int i = number(20);
                say("heard", p, i);
                List<Integer> row = in(p, 4) ? slow.performances.get(p) : List.of();
                return pair(x.heard(p, i), in(i, row.size()) ? row.get(i) : BAD);
            }
            case 24: {
                int c = number(slow.conditions.size() + 1);
                say("judge", p, c);
                boolean good = in(p, 4) && in(c, slow.conditions.size());
                return canBeJudged(p) ? pair(x.judge(p, c), good ? slow.judge(p, c) : BAD) : pair(0, 0);
            }
            case 25:
                say("verdict", p);
                return canBeJudged(p) ? pair(x.verdict(p), in(p, 4) ? slow.verdict(p) : BAD) : pair(0, 0);
            case 26:
            case 27: {
                int to = number(4);
                say("both", p, q, to);
                if (!in(p, 4) || !in(q, 4) || !in(to, 4)) {
                    return pair(x.both(p, q, to), BAD);
                }
                boolean alike = slow.performances.get(p).size() == slow.performances.get(q).size();
                return pair(x.both(p, q, to), alike ? slow.both(p, q, to) : NO);
            }
            case 28: {
                say("may", p, a);
                boolean good = in(p, 4) && in(a, 8);
                int want = good && SlowReader.may(slow.performances.get(p), slow.versions.get(a)) ? 1 : 0;
                return pair(x.may(p, a), good ? want : BAD);
            }
            default: {
                int what = number(5);
                say("count", what);
                return pair(x.count(what), in(what, 5) ? slow.count(what) : BAD);
            }
        }
    }

    private static boolean canBeJudged(int p) {
        int gaps = 0;
        if (in(p, 4)) {
            for (int thing : slow.performances.get(p)) {
                gaps += thing == NONE ? 1 : 0;
            }
        }
        return gaps <= MOST_GAPS_JUDGED;
    }

    private static long[] aTour(int kind) {
        int v = number(8);
        int town = number(8);
        int day = number(below(2) == 0 ? 30 : 1000);
        boolean good = in(v, 8) && in(town, 8) && in(day, 1000);
        if (kind < 33) {
            say("cut", v, town, day);
            return pair(x.cut(v, town, day), good ? slow.cut(v, town, day) : BAD);
        }
        if (kind == 33) {
            int to = number(8);
            say("fit", v, town, day, to);
            return pair(x.fit(v, town, day, to), good && in(to, 8) ? slow.fit(v, town, day, to) : BAD);
        }
        if (kind < 36) {
            say("free", v, town, day);
            return pair(x.free(v, town, day), good ? slow.free(v, town, day) : BAD);
        }
        if (kind < 38) {
            int i = number(9);
            say("town", i);
            return pair(x.town(i), in(i, slow.latestTour.size()) ? slow.latestTour.get(i) : NONE);
        }
        int towns = below(60) == 0 ? number(300) : 1 + below(255);
        if (Integer.bitCount(towns) > 6 && below(8) != 0) {
            towns &= 0x5b;
        }
        int rest = number(below(2) == 0 ? 3 : 21);
        say("tour", v, towns, day, rest);
        if (!in(v, 8) || towns < 1 || towns > 255 || !in(day, 1000) || !in(rest, 21)) {
            return pair(x.tour(v, towns, day, rest), BAD);
        }
        boolean ends = day + (Integer.bitCount(towns) - 1) * (rest + 1) <= 999;
        return pair(x.tour(v, towns, day, rest), ends ? slow.tour(v, towns, day, rest) : NO);
    }
}
