import java.util.ArrayList;
import java.util.List;

/** All small rows: CHANGES, judgements and what a VERSION may be, against every row that could stand there. */
public final class SmallRowsTest {
    private static final int NONE = -1;

    private static Check check;

    public static void main(String[] args) {
        check = new Check("SmallRowsTest");
        changes();
        judgements();
        mays();
        check.end();
    }

    private static List<List<Integer>> rowsUpTo(int length, int... things) {
        List<List<Integer>> rows = new ArrayList<>();
        rows.add(List.of());
        int from = 0;
        for (int n = 0; n < length; n++) {
            int to = rows.size();
            for (; from < to; from++) {
                for (int thing : things) {
                    List<Integer> row = new ArrayList<>(rows.get(from));
                    row.add(thing);
                    rows.add(row);
                }
            }
        }
        return rows;
    }

    private static void becomes(PlayReader x, int version, List<Integer> row) {
        while (x.lineAt(version, 0) != NONE) {
            x.take(version, 0);
        }
        for (int i = 0; i < row.size(); i++) {
            x.put(version, i, row.get(i));
        }
    }

    private static void changes() {
        List<List<Integer>> rows = rowsUpTo(4, 0, 1, 2);
        for (List<Integer> a : rows) {
            PlayReader x = new PlayReader();
            becomes(x, 0, a);
            for (List<Integer> b : rows) {
                becomes(x, 1, b);
                String steps = SlowReader.changes(a, b);
                check.due("differ of " + a + " and " + b, x.differ(0, 1), SlowReader.changed(steps));
                for (int i = 0; i <= steps.length(); i++) {
                    int want = i < steps.length() ? steps.charAt(i) - '0' : NONE;
                    check.due("step " + i + " of " + a + " and " + b, x.step(0, 1, i), want);
                }
            }
        }
    }

    private static void judgements() {
        int line = 3;
        int y = 2;
        int other = 7;
        List<List<Integer>> performances = rowsUpTo(4, line, y, other, NONE);
        List<List<Integer>> fillings = rowsUpTo(2, line, y, other);
        for (List<Integer> things : performances) {
            List<List<Integer>> rows = new ArrayList<>();
            fill(things, 0, new ArrayList<>(), fillings, rows);
            for (int sort = 0; sort < 7; sort++) {
                judgement(things, rows, sort, line, sort == 1 ? 1 : y);
                judgement(things, rows, sort, line, sort == 1 ? 0 : line);
            }
        }
    }

    private static void judgement(List<Integer> things, List<List<Integer>> rows, int sort, int line, int y) {
        int kept = 0;
        for (List<Integer> row : rows) {
            kept += SlowReader.keeps(row, sort, line, y) ? 1 : 0;
        }
        int want = kept == rows.size() ? 0 : kept == 0 ? 2 : 1;
        PlayReader x = new PlayReader();
        x.condition(sort, line, y);
        for (int thing : things) {
            x.hear(2, thing);
        }
        String what = things + " by SORT " + sort + " x " + line + " y " + y;
        check.due("judge of " + what, x.judge(2, 0), want);
        check.due("the slow reader's judge of " + what, SlowReader.judge(things, sort, line, y), want);
    }

    private static void fill(List<Integer> things, int from, List<Integer> row, List<List<Integer>> fillings,
                             List<List<Integer>> rows) {
        if (from == things.size()) {
            rows.add(new ArrayList<>(row));
            return;
        }
        List<List<Integer>> here = things.get(from) == NONE ? fillings : List.of(List.of(things.get(from)));
        for (List<Integer> filling : here) {
            int size = row.size();
            row.addAll(filling);
            fill(things, from + 1, row, fillings, rows);
            while (row.size() > size) {
                row.remove(row.size() - 1);
            }
        }
    }

    private static void mays() {
        List<List<Integer>> performances = rowsUpTo(5, 0, 1, NONE);
        List<List<Integer>> versions = rowsUpTo(5, 0, 1);
        for (List<Integer> lines : versions) {
            PlayReader x = new PlayReader();
            becomes(x, 4, lines);
            for (List<Integer> things : performances) {
                x.forget(1);
                StringBuilder pattern = new StringBuilder();
                for (int thing : things) {
                    x.hear(1, thing);
                    pattern.append(thing == NONE ? ".*" : "" + thing);
                }
                StringBuilder text = new StringBuilder();
                for (int l : lines) {
                    text.append(l);
                }
                int want = text.toString().matches(pattern.toString()) ? 1 : 0;
                check.due("may of " + things + " and " + lines, x.may(1, 4), want);
            }
        }
    }
}
