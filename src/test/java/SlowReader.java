import java.util.ArrayList;
import java.util.List;

/**
 * The document said a second time, as slowly and plainly as it can be: by trying all rows of steps, all orders,
 * all days. The tests hold PlayReader against it; it takes good numbers alone.
 */
final class SlowReader {
    static final int NONE = -1;
    private static final int MANY_TIMES = 41;

    final List<List<Integer>> versions = new ArrayList<>();
    final List<List<Integer>> performances = new ArrayList<>();
    final List<int[]> conditions = new ArrayList<>();
    final List<int[]> rules = new ArrayList<>();
    final int[] marks = new int[100];
    List<Integer> latestTour = new ArrayList<>();

    SlowReader() {
        for (int i = 0; i < 8; i++) {
            versions.add(new ArrayList<>());
        }
        for (int i = 0; i < 4; i++) {
            performances.add(new ArrayList<>());
        }
    }

    // ---- CHANGES: the best row of steps from every pair of places, held as a text

    static String changes(List<Integer> a, List<Integer> b) {
        String[][] best = new String[a.size() + 1][b.size() + 1];
        for (int i = a.size(); i >= 0; i--) {
            for (int j = b.size(); j >= 0; j--) {
                String found = i == a.size() && j == b.size() ? "" : null;
                if (i < a.size() && j < b.size() && a.get(i).equals(b.get(j))) {
                    found = better(found, "0" + best[i + 1][j + 1]);
                }
                if (i < a.size()) {
                    found = better(found, "1" + best[i + 1][j]);
                }
                if (j < b.size()) {
                    found = better(found, "2" + best[i][j + 1]);
                }
                best[i][j] = found;
            }
        }
        return best[0][0];
    }

    private static String better(String a, String b) {
        if (a == null || changed(b) < changed(a)) {
            return b;
        }
        return changed(b) == changed(a) && b.compareTo(a) < 0 ? b : a;
    }

    static int changed(String steps) {
        return steps.replace("0", "").length();
    }

    // ---- CONDITIONS by their words

    static boolean keeps(List<Integer> row, int sort, int x, int y) {
        int times = 0;
        for (int i = 0; i < row.size(); i++) {
            boolean isX = row.get(i) == x;
            times += isX ? 1 : 0;
            if (isX && sort == 2 && !row.subList(0, i).contains(y)) {
                return false;
            }
            if (isX && sort == 5 && (i == 0 || row.get(i - 1) != y)) {
                return false;
            }
            if (isX && sort == 6 && row.subList(i + 1, row.size()).contains(y)) {
                return false;
            }
        }
        switch (sort) {
            case 0: return times == 0;
            case 1: return times <= y;
            case 3: return times == 0 || !row.contains(y);
            case 4: return times > 0;
            default: return true;
        }
    }

    /** What a GAP may stand for, as far as a CONDITION can tell. */
    private static List<List<Integer>> fillings(int x, int y) {
        int other = 0;
        while (other == x || other == y) {
            other++;
        }
        List<Integer> many = new ArrayList<>();
        for (int i = 0; i < MANY_TIMES; i++) {
            many.add(x);
        }
        return List.of(List.of(), List.of(x), List.of(y), List.of(other), List.of(x, y), List.of(y, x),
            List.of(y, other), List.of(other, x), many);
    }

    static int judge(List<Integer> things, int sort, int x, int y) {
        boolean[] found = new boolean[2];
        fill(things, 0, new ArrayList<>(), fillings(x, y), new int[] {sort, x, y}, found);
        if (!found[1]) {
            return 0;
        }
        return found[0] ? 1 : 2;
    }

    private static void fill(List<Integer> things, int from, List<Integer> row, List<List<Integer>> fillings,
                             int[] condition, boolean[] found) {
        if (found[0] && found[1]) {
            return;
        }
        int size = row.size();
        int i = from;
        while (i < things.size() && things.get(i) != NONE) {
            row.add(things.get(i));
            i++;
        }
        if (i == things.size()) {
            found[keeps(row, condition[0], condition[1], condition[2]) ? 0 : 1] = true;
        } else {
            // A row of GAPS stands for what one of them stands for.
            int behind = i;
            while (behind < things.size() && things.get(behind) == NONE) {
                behind++;
            }
            int before = row.size();
            for (List<Integer> filling : fillings) {
                row.addAll(filling);
                fill(things, behind, row, fillings, condition, found);
                cutTo(row, before);
            }
        }
        cutTo(row, size);
    }

    private static void cutTo(List<Integer> row, int size) {
        while (row.size() > size) {
            row.remove(row.size() - 1);
        }
    }

    static boolean may(List<Integer> things, List<Integer> lines) {
        boolean[][] fits = new boolean[things.size() + 1][lines.size() + 1];
        for (int i = things.size(); i >= 0; i--) {
            for (int j = lines.size(); j >= 0; j--) {
                if (i == things.size()) {
                    fits[i][j] = j == lines.size();
                } else if (things.get(i) == NONE) {
                    for (int k = j; k <= lines.size(); k++) {
                        fits[i][j] |= fits[i + 1][k];
                    }
                } else {
                    fits[i][j] = j < lines.size() && lines.get(j).equals(things.get(i)) && fits[i + 1][j + 1];
                }
            }
        }
        return fits[0][0];
    }

    int breaks(int version) {
        for (int i = 0; i < conditions.size(); i++) {
            int[] c = conditions.get(i);
            if (!keeps(versions.get(version), c[0], c[1], c[2])) {
                return i;
            }
        }
        return NONE;
    }

    int judge(int performance, int condition) {
        int[] c = conditions.get(condition);
        return judge(performances.get(performance), c[0], c[1], c[2]);
    }

    int verdict(int performance) {
        int worst = 0;
        for (int i = 0; i < conditions.size(); i++) {
            worst = Math.max(worst, judge(performance, i));
        }
        return worst;
    }

    int both(int a, int b, int to) {
        List<Integer> merged = new ArrayList<>();
        int quarrels = 0;
        for (int i = 0; i < performances.get(a).size(); i++) {
            int left = performances.get(a).get(i);
            int right = performances.get(b).get(i);
            if (left == right) {
                merged.add(left);
            } else if (left != NONE && right != NONE) {
                merged.add(NONE);
                quarrels++;
            } else {
                merged.add(left == NONE ? right : left);
            }
        }
        performances.set(to, merged);
        return quarrels;
    }

    // ---- RULES and TOURS

    boolean isForbidden(int line, int town, int day) {
        for (int[] r : rules) {
            if (r[0] == town && (r[1] & marks[line]) != 0 && r[2] <= day && day <= r[3]) {
                return true;
            }
        }
        return false;
    }

    int cut(int version, int town, int day) {
        int lines = 0;
        for (int line : versions.get(version)) {
            lines += isForbidden(line, town, day) ? 1 : 0;
        }
        return lines;
    }

    int fit(int version, int town, int day, int to) {
        List<Integer> left = new ArrayList<>();
        for (int line : versions.get(version)) {
            if (!isForbidden(line, town, day)) {
                left.add(line);
            }
        }
        versions.set(to, left);
        return left.size();
    }

    int tour(int version, int towns, int day, int rest) {
        List<Integer> best = new ArrayList<>();
        int fewest = tryOrders(version, towns, day, rest, 0, new ArrayList<>(), best, Integer.MAX_VALUE);
        latestTour = best;
        return fewest;
    }

    /** Tries all orders from the first one on, so that of like ones the first stays. */
    private int tryOrders(int version, int towns, int day, int rest, int cuts, List<Integer> order,
                          List<Integer> best, int fewest) {
        if (towns == 0) {
            if (cuts < fewest) {
                best.clear();
                best.addAll(order);
            }
            return Math.min(cuts, fewest);
        }
        int found = fewest;
        for (int town = 0; town < 8; town++) {
            if ((towns >> town & 1) != 0) {
                order.add(town);
                int more = cuts + cut(version, town, day);
                found = tryOrders(version, towns & ~(1 << town), day + 1 + rest, rest, more, order, best, found);
                order.remove(order.size() - 1);
            }
        }
        return found;
    }

    int free(int version, int town, int day) {
        for (int d = day; d <= 999; d++) {
            if (cut(version, town, d) == 0) {
                return d;
            }
        }
        return NONE;
    }

    int count(int what) {
        int n = 0;
        switch (what) {
            case 0:
                for (List<Integer> v : versions) {
                    n += v.size();
                }
                return n;
            case 1:
                return conditions.size();
            case 2:
                for (List<Integer> p : performances) {
                    n += p.size();
                }
                return n;
            case 3:
                for (List<Integer> p : performances) {
                    for (int thing : p) {
                        n += thing == NONE ? 1 : 0;
                    }
                }
                return n;
            default:
                return rules.size();
        }
    }

    long digest() {
        List<Integer> all = new ArrayList<>();
        for (int what = 0; what < 5; what++) {
            all.add(count(what));
        }
        for (List<Integer> v : versions) {
            all.add(v.size());
            all.addAll(v);
        }
        for (List<Integer> p : performances) {
            all.add(p.size());
            all.addAll(p);
        }
        for (int m : marks) {
            all.add(m);
        }
        for (int[] r : rules) {
            for (int v : r) {
                all.add(v);
            }
        }
        for (int[] c : conditions) {
            for (int v : c) {
                all.add(v);
            }
        }
        long h = 181;
        for (int v : all) {
            h = 31 * h + v;
        }
        return h;
    }
}
