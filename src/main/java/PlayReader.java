/**
 * A reader of plays: versions held against one another, conditions of a licence, performances judged
 * by what was heard, rules of towns and tours through them. The words in capitals are the document's.
 */
public final class PlayReader {
    public static final int NONE = -1, BAD = -2, NO = -3, FULL = -4;

    private static final int VERSIONS = 8;
    private static final int PERFORMANCES = 4;
    private static final int ROW_LENGTH = 40;
    private static final int LINES = 100;
    private static final int MOST_CONDITIONS = 12;
    private static final int MOST_RULES = 20;
    private static final int TOWNS = 8;
    private static final int ALL_TOWNS = 255;
    private static final int ALL_MARKS = 255;
    private static final int LAST_DAY = 999;
    private static final int MOST_REST = 20;

    private static final int KEPT = 0;
    private static final int DOUBT = 1;
    private static final int BREACH = 2;

    private final Row[] versions = new Row[VERSIONS];
    private final Row[] performances = new Row[PERFORMANCES];
    private final Condition[] conditions = new Condition[MOST_CONDITIONS];
    private final Rule[] rules = new Rule[MOST_RULES];
    private final int[] marks = new int[LINES];
    private final Changes changes = new Changes();
    private final TourPlan latestTour = new TourPlan();
    private final Row twoEars = new Row();
    private int conditionCount = 0;
    private int ruleCount = 0;

    public PlayReader() {
        for (int i = 0; i < VERSIONS; i++) {
            versions[i] = new Row();
        }
        for (int i = 0; i < PERFORMANCES; i++) {
            performances[i] = new Row();
        }
    }

    // ---- versions

    public int put(int version, int i, int line) {
        Row row = rowOf(versions, version);
        if (row == null || i < 0 || i > row.size || !isLine(line)) {
            return BAD;
        }
        if (row.isFull()) {
            return FULL;
        }
        row.insert(i, line);
        return row.size;
    }

    public int take(int version, int i) {
        Row row = rowOf(versions, version);
        if (row == null || !row.has(i)) {
            return BAD;
        }
        int line = row.at(i);
        row.remove(i);
        return line;
    }

    public int copy(int from, int to) {
        Row source = rowOf(versions, from);
        Row target = rowOf(versions, to);
        if (source == null || target == null) {
            return BAD;
        }
        target.become(source);
        return target.size;
    }

    public int lineAt(int version, int i) {
        Row row = rowOf(versions, version);
        return row == null ? BAD : row.at(i);
    }

    public int differ(int a, int b) {
        Row first = rowOf(versions, a);
        Row second = rowOf(versions, b);
        if (first == null || second == null) {
            return BAD;
        }
        changes.compare(first, second);
        return changes.difference();
    }

    public int step(int a, int b, int i) {
        Row first = rowOf(versions, a);
        Row second = rowOf(versions, b);
        if (first == null || second == null) {
            return BAD;
        }
        if (i < 0 || i >= first.size + second.size) {
            return NONE;
        }
        changes.compare(first, second);
        return changes.stepAt(first, second, i);
    }

    // ---- conditions, performances

    public int condition(int sort, int x, int y) {
        if (sort < 0 || sort > Condition.LAST || !isLine(x) || !isLine(y)) {
            return BAD;
        }
        if (sort == Condition.AT_MOST && y > ROW_LENGTH) {
            return BAD;
        }
        if (conditionCount >= MOST_CONDITIONS) {
            return FULL;
        }
        conditions[conditionCount] = new Condition(sort, x, y);
        conditionCount++;
        return conditionCount - 1;
    }

    public int clear() {
        int gone = conditionCount;
        conditionCount = 0;
        return gone;
    }

    public int breaks(int version) {
        Row row = rowOf(versions, version);
        if (row == null) {
            return BAD;
        }
        for (int i = 0; i < conditionCount; i++) {
            if (judgementOf(row, conditionOf(i)) == BREACH) {
                return i;
            }
        }
        return NONE;
    }

    public int hear(int performance, int line) {
        Row row = rowOf(performances, performance);
        if (row == null || (line != NONE && !isLine(line))) {
            return BAD;
        }
        if (row.isFull()) {
            return FULL;
        }
        row.insert(row.size, line);
        return row.size;
    }

    public int forget(int performance) {
        Row row = rowOf(performances, performance);
        if (row == null) {
            return BAD;
        }
        int things = row.size;
        row.empty();
        return things;
    }

    public int heard(int performance, int i) {
        Row row = rowOf(performances, performance);
        return row == null || !row.has(i) ? BAD : row.at(i);
    }

    public int judge(int performance, int condition) {
        Row row = rowOf(performances, performance);
        Condition by = conditionOf(condition);
        return row == null || by == null ? BAD : judgementOf(row, by);
    }

    public int verdict(int performance) {
        Row row = rowOf(performances, performance);
        if (row == null) {
            return BAD;
        }
        int worst = KEPT;
        for (int i = 0; i < conditionCount; i++) {
            worst = Math.max(worst, judgementOf(row, conditionOf(i)));
        }
        return worst;
    }

    public int both(int a, int b, int to) {
        Row left = rowOf(performances, a);
        Row right = rowOf(performances, b);
        Row target = rowOf(performances, to);
        if (left == null || right == null || target == null) {
            return BAD;
        }
        if (left.size != right.size) {
            return NO;
        }
        int quarrels = 0;
        twoEars.empty();
        for (int i = 0; i < left.size; i++) {
            if (isQuarrel(left.at(i), right.at(i))) {
                quarrels++;
            }
            twoEars.insert(i, heardByTwo(left.at(i), right.at(i)));
        }
        target.become(twoEars);
        return quarrels;
    }

    public int may(int performance, int version) {
        Row things = rowOf(performances, performance);
        Row lines = rowOf(versions, version);
        if (things == null || lines == null) {
            return BAD;
        }
        long places = placesBehind(things, lines);
        return hasBit(places, lines.size) ? 1 : 0;
    }

    // ---- rules, tours

    public int mark(int line, int marks) {
        if (!isLine(line) || !isMarks(marks)) {
            return BAD;
        }
        int before = this.marks[line];
        this.marks[line] = marks;
        return before;
    }

    public int rule(int town, int marks, int from, int to) {
        if (!isTown(town) || !isMarks(marks) || !isDay(from) || !isDay(to) || from > to) {
            return BAD;
        }
        if (ruleCount >= MOST_RULES) {
            return FULL;
        }
        rules[ruleCount] = new Rule(town, marks, from, to);
        ruleCount++;
        return ruleCount - 1;
    }

    public int cut(int version, int town, int day) {
        Row row = rowOf(versions, version);
        if (row == null || !isTown(town) || !isDay(day)) {
            return BAD;
        }
        return linesWith(row, forbiddenMarks(town, day));
    }

    public int fit(int version, int town, int day, int to) {
        Row source = rowOf(versions, version);
        Row target = rowOf(versions, to);
        if (source == null || target == null || !isTown(town) || !isDay(day)) {
            return BAD;
        }
        int forbidden = forbiddenMarks(town, day);
        target.become(source);
        for (int i = target.size - 1; i >= 0; i--) {
            if ((marksOf(target.at(i)) & forbidden) != 0) {
                target.remove(i);
            }
        }
        return target.size;
    }

    public int tour(int version, int towns, int day, int rest) {
        Row row = rowOf(versions, version);
        if (row == null || towns < 1 || towns > ALL_TOWNS || !isDay(day) || rest < 0 || rest > MOST_REST) {
            return BAD;
        }
        int stops = Integer.bitCount(towns);
        if (day + (stops - 1) * (rest + 1) > LAST_DAY) {
            return NO;
        }
        for (int town = 0; town < TOWNS; town++) {
            for (int stop = 0; stop < stops; stop++) {
                int cuts = linesWith(row, forbiddenMarks(town, day + stop * (rest + 1)));
                latestTour.setCuts(town, stop, cuts);
            }
        }
        return latestTour.find(towns);
    }

    public int town(int i) {
        return latestTour.order.at(i);
    }

    public int free(int version, int town, int day) {
        Row row = rowOf(versions, version);
        if (row == null || !isTown(town) || !isDay(day)) {
            return BAD;
        }
        int all = marksOfAll(row);
        int first = day;
        // A rule that has been passed is never met again, so there are no more rounds than rules, and one.
        for (int round = 0; round <= ruleCount && first <= LAST_DAY; round++) {
            int last = lastForbiddenDay(all, town, first);
            if (last == NONE) {
                return first;
            }
            first = last + 1;
        }
        return NONE;
    }

    public int count(int what) {
        switch (what) {
            case 0:
                return thingsIn(versions);
            case 1:
                return conditionCount;
            case 2:
                return thingsIn(performances);
            case 3:
                return gapsHeard();
            case 4:
                return ruleCount;
            default:
                return BAD;
        }
    }

    public long digest() {
        long h = 181;
        for (int what = 0; what <= 4; what++) {
            h = mixed(h, count(what));
        }
        h = mixedRows(h, versions);
        h = mixedRows(h, performances);
        for (int line = 0; line < LINES; line++) {
            h = mixed(h, marksOf(line));
        }
        h = mixedRules(h);
        return mixedConditions(h);
    }

    // ---- what a number may be

    private static boolean isLine(int line) {
        return line >= 0 && line < LINES;
    }

    private static boolean isTown(int town) {
        return town >= 0 && town < TOWNS;
    }

    private static boolean isMarks(int marks) {
        return marks >= 0 && marks <= ALL_MARKS;
    }

    private static boolean isDay(int day) {
        return day >= 0 && day <= LAST_DAY;
    }

    private static Row rowOf(Row[] rows, int i) {
        return i >= 0 && i < rows.length ? rows[i] : null;
    }

    private Condition conditionOf(int i) {
        return i >= 0 && i < conditionCount && i < conditions.length ? conditions[i] : null;
    }

    private Rule ruleOf(int i) {
        return i >= 0 && i < ruleCount && i < rules.length ? rules[i] : null;
    }

    private static boolean hasBit(long set, int bit) {
        return ((set >> bit) & 1) != 0;
    }

    // ---- performances

    private static int judgementOf(Row row, Condition condition) {
        return condition == null ? KEPT : condition.judgement(row);
    }

    private static boolean isQuarrel(int left, int right) {
        return left != right && left != NONE && right != NONE;
    }

    private static int heardByTwo(int left, int right) {
        if (left == right || right == NONE) {
            return left;
        }
        return left == NONE ? right : NONE;
    }

    /** The places of the lines, as bits, at which one may stand when all things have been heard. */
    private static long placesBehind(Row things, Row lines) {
        long places = 1;
        for (int i = 0; i < things.size; i++) {
            int thing = things.at(i);
            places = thing == NONE ? placesBehindGap(places, lines) : placesBehindLine(places, lines, thing);
        }
        return places;
    }

    private static long placesBehindLine(long places, Row lines, int line) {
        long behind = 0;
        for (int place = 0; place < lines.size; place++) {
            if (hasBit(places, place) && lines.at(place) == line) {
                behind |= 1L << (place + 1);
            }
        }
        return behind;
    }

    private static long placesBehindGap(long places, Row lines) {
        long behind = places;
        for (int place = 0; place < lines.size; place++) {
            if (hasBit(behind, place)) {
                behind |= 1L << (place + 1);
            }
        }
        return behind;
    }

    private int gapsHeard() {
        int gaps = 0;
        for (int p = 0; p < PERFORMANCES; p++) {
            Row row = rowOf(performances, p);
            for (int i = 0; row != null && i < row.size; i++) {
                if (row.at(i) == NONE) {
                    gaps++;
                }
            }
        }
        return gaps;
    }

    private static int thingsIn(Row[] rows) {
        int things = 0;
        for (int i = 0; i < rows.length; i++) {
            Row row = rowOf(rows, i);
            if (row != null) {
                things += row.size;
            }
        }
        return things;
    }

    // ---- marks and rules

    private int marksOf(int line) {
        return isLine(line) ? marks[line] : 0;
    }

    private int marksOfAll(Row row) {
        int all = 0;
        for (int i = 0; i < row.size; i++) {
            all |= marksOf(row.at(i));
        }
        return all;
    }

    private int linesWith(Row row, int forbidden) {
        int lines = 0;
        for (int i = 0; i < row.size; i++) {
            if ((marksOf(row.at(i)) & forbidden) != 0) {
                lines++;
            }
        }
        return lines;
    }

    private int forbiddenMarks(int town, int day) {
        int forbidden = 0;
        for (int i = 0; i < ruleCount; i++) {
            Rule rule = ruleOf(i);
            if (rule != null && rule.isInForce(town, day)) {
                forbidden |= rule.marks;
            }
        }
        return forbidden;
    }

    /** The last day of those rules that forbid one of the marks on the day; NONE if none does. */
    private int lastForbiddenDay(int someMarks, int town, int day) {
        int last = NONE;
        for (int i = 0; i < ruleCount; i++) {
            Rule rule = ruleOf(i);
            if (rule != null && rule.isInForce(town, day) && (rule.marks & someMarks) != 0) {
                last = Math.max(last, rule.to);
            }
        }
        return last;
    }

    // ---- digest

    private static long mixed(long h, int v) {
        return 31 * h + v;
    }

    private static long mixedRows(long h, Row[] rows) {
        long mix = h;
        for (int r = 0; r < rows.length; r++) {
            Row row = rowOf(rows, r);
            if (row != null) {
                mix = mixed(mix, row.size);
                for (int i = 0; i < row.size; i++) {
                    mix = mixed(mix, row.at(i));
                }
            }
        }
        return mix;
    }

    private long mixedRules(long h) {
        long mix = h;
        for (int i = 0; i < ruleCount; i++) {
            Rule rule = ruleOf(i);
            if (rule != null) {
                mix = mixed(mix, rule.town);
                mix = mixed(mix, rule.marks);
                mix = mixed(mix, rule.from);
                mix = mixed(mix, rule.to);
            }
        }
        return mix;
    }

    private long mixedConditions(long h) {
        long mix = h;
        for (int i = 0; i < conditionCount; i++) {
            Condition condition = conditionOf(i);
            if (condition != null) {
                mix = mixed(mix, condition.sort);
                mix = mixed(mix, condition.x);
                mix = mixed(mix, condition.y);
            }
        }
        return mix;
    }

    /**
     * A row of up to 40 numbers: the LINES of a VERSION, the things heard in a PERFORMANCE, the TOWNS of a TOUR.
     * Its size is changed here alone, and stays from 0 to things.length.
     */
    private static final class Row {
        final int[] things = new int[ROW_LENGTH];
        int size = 0;

        boolean has(int i) {
            return i >= 0 && i < size && i < things.length;
        }

        int at(int i) {
            return has(i) ? things[i] : NONE;
        }

        boolean isFull() {
            return size >= things.length;
        }

        void insert(int i, int thing) {
            if (i < 0 || i > size || isFull()) {
                return;
            }
            for (int k = size; k > i; k--) {
                things[k] = things[k - 1];
            }
            things[i] = thing;
            size++;
        }

        void remove(int i) {
            if (!has(i)) {
                return;
            }
            for (int k = i; k + 1 < size && k + 1 < things.length; k++) {
                things[k] = things[k + 1];
            }
            size--;
        }

        void empty() {
            size = 0;
        }

        void become(Row other) {
            for (int i = 0; i < other.size && i < things.length; i++) {
                things[i] = other.at(i);
            }
            size = other.size;
        }
    }

    /**
     * A CONDITION as a small machine: it goes from state to state with each LINE that is said, beginning at
     * state 0. A GAP may lead to several states, so that a set of states (bits) is carried along.
     */
    private static final class Condition {
        static final int NEVER = 0;
        static final int AT_MOST = 1;
        static final int BEHIND = 2;
        static final int NOT_WITH = 3;
        static final int ALWAYS = 4;
        static final int JUST_BEHIND = 5;
        static final int LAST = 6;

        // Stands for all the LINES that are neither x nor y: to a CONDITION they are all alike.
        static final int ANOTHER_LINE = -1;

        final int sort;
        final int x;
        final int y;

        Condition(int sort, int x, int y) {
            this.sort = sort;
            this.x = x;
            this.y = y;
        }

        int judgement(Row row) {
            long states = statesBehind(row);
            boolean mayKeep = false;
            boolean mayBreak = false;
            for (int state = 0; state <= lastState(); state++) {
                if (hasBit(states, state)) {
                    if (isBroken(state)) {
                        mayBreak = true;
                    } else {
                        mayKeep = true;
                    }
                }
            }
            if (!mayBreak) {
                return KEPT;
            }
            return mayKeep ? DOUBT : BREACH;
        }

        long statesBehind(Row row) {
            long states = 1;
            for (int i = 0; i < row.size; i++) {
                int thing = row.at(i);
                states = thing == NONE ? statesBehindGap(states) : statesBehindLine(states, thing);
            }
            return states;
        }

        long statesBehindLine(long states, int line) {
            long behind = 0;
            for (int state = 0; state <= lastState(); state++) {
                if (hasBit(states, state)) {
                    behind |= 1L << next(state, line);
                }
            }
            return behind;
        }

        long statesBehindGap(long states) {
            long behind = states;
            // Each round but the last finds a new state.
            for (int round = 0; round <= lastState(); round++) {
                long before = behind;
                for (int state = 0; state <= lastState(); state++) {
                    if (hasBit(behind, state)) {
                        behind |= 1L << next(state, x);
                        behind |= 1L << next(state, y);
                        behind |= 1L << next(state, ANOTHER_LINE);
                    }
                }
                if (behind == before) {
                    break;
                }
            }
            return behind;
        }

        int lastState() {
            return sort == AT_MOST ? y + 1 : 3;
        }

        /**
         * The states: NEVER and ALWAYS 1 x was said; AT_MOST how often x was said, y + 1 for all that is too often;
         * BEHIND 1 y was said; NOT_WITH 1 x was said, 2 y was said, 3 both; JUST_BEHIND 1 the line ahead is y;
         * LAST 1 x was said; with BEHIND, JUST_BEHIND and LAST 2 stands for broken.
         */
        int next(int state, int line) {
            switch (sort) {
                case AT_MOST:
                    return line == x && state <= y ? state + 1 : state;
                case BEHIND:
                    if (state != 0) {
                        return state;
                    }
                    if (line == x) {
                        return 2;
                    }
                    return line == y ? 1 : 0;
                case NOT_WITH:
                    return state | (line == x ? 1 : 0) | (line == y ? 2 : 0);
                case JUST_BEHIND:
                    if (state == 2 || (state == 0 && line == x)) {
                        return 2;
                    }
                    return line == y ? 1 : 0;
                case LAST:
                    if (state == 0) {
                        return line == x ? 1 : 0;
                    }
                    return line == y ? 2 : state;
                default:
                    return line == x ? 1 : state;
            }
        }

        boolean isBroken(int state) {
            switch (sort) {
                case NEVER:
                    return state == 1;
                case AT_MOST:
                    return state > y;
                case NOT_WITH:
                    return state == 3;
                case ALWAYS:
                    return state == 0;
                default:
                    return state == 2;
            }
        }
    }

    /** A RULE of a TOWN: LINES with one of the MARKS are FORBIDDEN there from a day to a day. */
    private static final class Rule {
        final int town;
        final int marks;
        final int from;
        final int to;

        Rule(int town, int marks, int from, int to) {
            this.town = town;
            this.marks = marks;
            this.from = from;
            this.to = to;
        }

        boolean isInForce(int where, int day) {
            return where == town && day >= from && day <= to;
        }
    }

    /** The DIFFERENCE and the CHANGES of two rows: compare them first, then ask. */
    private static final class Changes {
        static final int ALIKE = 0;
        static final int TAKEN_OUT = 1;
        static final int PUT_IN = 2;

        // By places i, j: the DIFFERENCE of what is left of the first row from i on and of the second one from j on.
        final int[][] left = new int[ROW_LENGTH + 1][ROW_LENGTH + 1];

        void compare(Row first, Row second) {
            for (int i = Math.min(first.size, ROW_LENGTH); i >= 0; i--) {
                for (int j = Math.min(second.size, ROW_LENGTH); j >= 0; j--) {
                    left[i][j] = differenceFrom(first, i, second, j);
                }
            }
        }

        int difference() {
            return leftFrom(0, 0);
        }

        int leftFrom(int i, int j) {
            return i >= 0 && i <= ROW_LENGTH && j >= 0 && j <= ROW_LENGTH ? left[i][j] : 0;
        }

        int differenceFrom(Row first, int i, Row second, int j) {
            if (!first.has(i)) {
                return second.size - j;
            }
            if (!second.has(j)) {
                return first.size - i;
            }
            if (first.at(i) == second.at(j)) {
                return leftFrom(i + 1, j + 1);
            }
            return 1 + Math.min(leftFrom(i + 1, j), leftFrom(i, j + 1));
        }

        int stepAt(Row first, Row second, int wanted) {
            int i = 0;
            int j = 0;
            for (int k = 0; k < first.size + second.size && (first.has(i) || second.has(j)); k++) {
                int step = stepFrom(first, i, second, j);
                if (k == wanted) {
                    return step;
                }
                if (step != PUT_IN) {
                    i++;
                }
                if (step != TAKEN_OUT) {
                    j++;
                }
            }
            return NONE;
        }

        int stepFrom(Row first, int i, Row second, int j) {
            // To go on by one with LINES alike never costs more than to part them, and 0 comes first.
            if (first.has(i) && second.has(j) && first.at(i) == second.at(j)) {
                return ALIKE;
            }
            boolean takesOut = first.has(i) && leftFrom(i + 1, j) + 1 == leftFrom(i, j);
            return takesOut ? TAKEN_OUT : PUT_IN;
        }
    }

    /** A TOUR: the ORDER of TOWNS with the fewest LINES CUT, the first of like ones. */
    private static final class TourPlan {
        final Row order = new Row();
        final int[][] cuts = new int[TOWNS][TOWNS];

        // By the set of TOWNS that have been visited: the fewest LINES CUT in all that are still to come.
        final int[] fewest = new int[ALL_TOWNS + 1];

        void setCuts(int town, int stop, int lines) {
            if (isTown(town) && isTown(stop)) {
                cuts[town][stop] = lines;
            }
        }

        int find(int towns) {
            for (int visited = ALL_TOWNS; visited >= 0; visited--) {
                if ((visited & ~towns) == 0) {
                    fewest[visited] = fewestBehind(towns, visited);
                }
            }
            order.empty();
            int visited = 0;
            for (int stop = 0; stop < TOWNS && visited != towns; stop++) {
                int town = nextTown(towns, visited);
                order.insert(stop, town);
                visited |= 1 << town;
            }
            return fewest[0];
        }

        int fewestBehind(int towns, int visited) {
            int next = nextTown(towns, visited);
            return next == NONE ? 0 : cutsBy(next, visited);
        }

        /** The first of the best TOWNS to go to next; NONE if all have been visited. */
        int nextTown(int towns, int visited) {
            int best = NONE;
            for (int town = 0; town < TOWNS; town++) {
                if (hasBit(towns & ~visited, town)) {
                    if (best == NONE || cutsBy(town, visited) < cutsBy(best, visited)) {
                        best = town;
                    }
                }
            }
            return best;
        }

        /** The fewest LINES CUT in all that is to come, if this TOWN is the next one. */
        int cutsBy(int town, int visited) {
            int stop = Integer.bitCount(visited);
            int behind = visited | (1 << town);
            if (!isTown(town) || !isTown(stop) || behind < 0 || behind > ALL_TOWNS) {
                return 0;
            }
            return cuts[town][stop] + fewest[behind];
        }
    }
}
