/**
 * A river that builds land into a lake, year by year, under each of 36 rules; a plan of works on it,
 * and old maps that tell which of the rules could have made them.
 */
public final class DeltaRuns {
    /** There is none. */
    public static final int NONE = -1;

    private static final int NOTHING = -100;

    private static final int NOT_REFUSED = 0;
    private static final int BAD_NUMBER = -1;
    private static final int NO_CELL = -2;
    private static final int NO_ROOM = -5;
    private static final int BAD_TEXT = -6;

    private static final int MIN_SIDE = 2;
    private static final int MAX_WIDTH = 12;
    private static final int MAX_DEPTH = 10;
    private static final int MAX_CELLS = 120;
    private static final int MAX_HEIGHT = 200;
    private static final int MAX_FLOW = 1000;
    private static final int MAX_YEAR = 30;
    private static final int MAX_DAY = 1000;
    private static final int MAX_ENTRIES = 200;
    private static final int MAX_BYTES = 300;
    private static final int BYTES_A_FEED = 20;
    private static final int MAX_ACTS = 20;
    private static final int RULES = 36;

    private static final int SORT_LOWEST = 0;
    private static final int SORT_EVEN = 1;

    private static final int DYKE = 0;
    private static final int OPEN = 1;
    private static final int CUT = 2;
    private static final int DREDGE = 3;

    private static final int SIDES = 4;
    private static final int[] SIDE_X = {1, 0, -1, 0};
    private static final int[] SIDE_Y = {0, 1, 0, -1};

    private final Land land = new Land();
    private final Tape tape = new Tape();
    private final Entries entries = new Entries();
    private final Water water = new Water();
    private final Years[] yearsOfRules = new Years[RULES];
    private Plan plan = new Plan();
    private Plan draft = new Plan();
    private int faultPlace = NONE;
    private int refusal = NOT_REFUSED;

    /** 6 times 6 cells of height 50, without a plan and without entries. */
    public DeltaRuns() {
    }

    /** A new land of w times h cells: 0, or what it is refused by. */
    public int size(int w, int h) {
        if (!within(w, MIN_SIDE, MAX_WIDTH) || !within(h, MIN_SIDE, MAX_DEPTH)) {
            return refuse(BAD_NUMBER);
        }
        land.layOut(w, h);
        entries.total = 0;
        forgetRuns();
        return accept(0);
    }

    /** Heights as of year 0 from x, y to u, v: how many cells. */
    public int land(int x, int y, int u, int v, int height) {
        if (!within(height, 0, MAX_HEIGHT) || x > u || y > v) {
            return refuse(BAD_NUMBER);
        }
        if (!land.has(x, y) || !land.has(u, v)) {
            return refuse(NO_CELL);
        }
        int raised = land.raise(x, y, u, v, height);
        forgetRuns();
        return accept(raised);
    }

    /** The lake's level: 0. */
    public int level(int n) {
        if (!within(n, 0, MAX_HEIGHT)) {
            return refuse(BAD_NUMBER);
        }
        land.lakeLevel = n;
        forgetRuns();
        return accept(0);
    }

    /** Where the water comes in, and how much each year: 0. */
    public int spring(int x, int y, int flow) {
        if (!within(flow, 0, MAX_FLOW)) {
            return refuse(BAD_NUMBER);
        }
        if (!land.has(x, y)) {
            return refuse(NO_CELL);
        }
        land.springCell = cellAt(x, y);
        land.springFlow = flow;
        forgetRuns();
        return accept(0);
    }

    /** Twenty bytes behind the tape: how many it has then. */
    public int feed(int a, int b, int c, int d, int e) {
        if (tape.length + BYTES_A_FEED > MAX_BYTES) {
            return NONE;
        }
        tape.addFour(a);
        tape.addFour(b);
        tape.addFour(c);
        tape.addFour(d);
        tape.addFour(e);
        return tape.length;
    }

    /** The tape keeps its first n bytes: n. */
    public int end(int n) {
        if (!within(n, 0, tape.length)) {
            return NONE;
        }
        tape.length = n;
        return n;
    }

    /** The tape becomes the plan: how many acts. */
    public int plan() {
        Reader reader = new Reader(tape, draft);
        faultPlace = reader.readPlan();
        tape.length = 0;
        if (faultPlace != NONE) {
            return refuse(BAD_TEXT);
        }
        Plan old = plan;
        plan = draft;
        draft = old;
        forgetRuns();
        return accept(plan.total);
    }

    /** Where the latest plan() found its fault. */
    public int fault() {
        return faultPlace;
    }

    /** The height of a cell as of a year under a rule. */
    public int height(int rule, int year, int x, int y) {
        if (!within(rule, 0, RULES - 1) || !within(year, 0, MAX_YEAR) || !land.has(x, y)) {
            return NONE;
        }
        return runTo(rule, year).heightOf(year, cellAt(x, y));
    }

    /** The flow that a cell got in a year under a rule. */
    public int flow(int rule, int year, int x, int y) {
        if (!within(rule, 0, RULES - 1) || !within(year, 1, MAX_YEAR) || !land.has(x, y)) {
            return NONE;
        }
        // Flows are not kept, to spare room: the one year that is asked for runs again.
        Years years = runTo(rule, year - 1);
        takeUp(years, year - 1);
        plan.workIn(year, land, water);
        water.run(land, sortOf(rule));
        return water.came[cellAt(x, y)];
    }

    /** How many cells are lake as of a year under a rule. */
    public int lake(int rule, int year) {
        if (!within(rule, 0, RULES - 1) || !within(year, 0, MAX_YEAR)) {
            return NONE;
        }
        Years years = runTo(rule, year);
        int lakes = 0;
        for (int y = 0; y < land.depth; y++) {
            for (int x = 0; x < land.width; x++) {
                if (years.heightOf(year, cellAt(x, y)) < land.lakeLevel) {
                    lakes++;
                }
            }
        }
        return lakes;
    }

    /** A new entry of the maps: how many there are. */
    public int map(int year, int x, int y, int height, int known) {
        if (!within(year, 0, MAX_YEAR) || !within(height, 0, MAX_HEIGHT) || !isDay(known)) {
            return refuse(BAD_NUMBER);
        }
        if (!land.has(x, y)) {
            return refuse(NO_CELL);
        }
        if (entries.total >= MAX_ENTRIES) {
            return refuse(NO_ROOM);
        }
        entries.add(year, cellAt(x, y), height, known);
        return accept(entries.total);
    }

    /** The i-th rule that stays as known on a day; how many, for i -1. */
    public int stays(int i, int known) {
        if (!within(i, -1, RULES - 1) || !isDay(known)) {
            return NONE;
        }
        int staying = 0;
        for (int rule = 0; rule < RULES; rule++) {
            if (againstFrom(0, rule, known) == NONE) {
                if (staying == i) {
                    return rule;
                }
                staying++;
            }
        }
        return i == -1 ? staying : NONE;
    }

    /** What the staying rules foretell of a cell: 0 the least, 1 the greatest height, 2 whether it grows. */
    public int foretold(int x, int y, int year, int known, int what) {
        if (!land.has(x, y) || !within(year, 0, MAX_YEAR) || !isDay(known) || !within(what, 0, 2)) {
            return NOTHING;
        }
        int cell = cellAt(x, y);
        int least = MAX_HEIGHT + 1;
        int greatest = -1;
        for (int rule = 0; rule < RULES; rule++) {
            if (againstFrom(0, rule, known) == NONE) {
                int height = runTo(rule, year).heightOf(year, cell);
                least = Math.min(least, height);
                greatest = Math.max(greatest, height);
            }
        }
        if (greatest < 0) {
            return NOTHING;
        }
        if (what == 2) {
            return trend(land.heights[cell], least, greatest);
        }
        return what == 0 ? least : greatest;
    }

    /** The first entry without which some rule would stay, if none does. */
    public int wasted(int known) {
        if (!isDay(known)) {
            return NONE;
        }
        int first = NONE;
        for (int rule = 0; rule < RULES; rule++) {
            int entry = againstFrom(0, rule, known);
            if (entry == NONE) {
                return NONE;
            }
            boolean alone = againstFrom(entry + 1, rule, known) == NONE;
            if (alone && (first == NONE || entry < first)) {
                first = entry;
            }
        }
        return first;
    }

    /** The first entry known by then with which a rule does not agree. */
    public int against(int rule, int known) {
        if (!within(rule, 0, RULES - 1) || !isDay(known)) {
            return NONE;
        }
        return againstFrom(0, rule, known);
    }

    /** 0 width, 1 depth, 2 level, 3 flow, 4 acts, 5 entries, 6 bytes of the tape. */
    public int count(int what) {
        switch (what) {
            case 0:
                return land.width;
            case 1:
                return land.depth;
            case 2:
                return land.lakeLevel;
            case 3:
                return land.springFlow;
            case 4:
                return plan.total;
            case 5:
                return entries.total;
            case 6:
                return tape.length;
            default:
                return NONE;
        }
    }

    /** What the latest call of size, land, level, spring, plan, map was refused by. */
    public int status() {
        return refusal;
    }

    private int refuse(int by) {
        refusal = by;
        return by;
    }

    private int accept(int answer) {
        refusal = NOT_REFUSED;
        return answer;
    }

    private void forgetRuns() {
        for (int rule = 0; rule < RULES; rule++) {
            if (yearsOfRules[rule] != null) {
                yearsOfRules[rule].latest = NONE;
            }
        }
    }

    /** The years of a rule, run at least as far as the year that is asked for. */
    private Years runTo(int rule, int year) {
        Years years = startedYears(rule);
        if (years.latest >= year) {
            return years;
        }
        takeUp(years, years.latest);
        for (int n = years.latest + 1; n <= year; n++) {
            plan.workIn(n, land, water);
            water.run(land, sortOf(rule));
            water.settle(land.lakeLevel, rateOf(rule), wearOf(rule));
            years.keep(n, water.heights);
        }
        return years;
    }

    /** A rule's years are made when first asked for: most objects never need all of them. */
    private Years startedYears(int rule) {
        Years years = yearsOfRules[rule];
        if (years == null) {
            years = new Years();
            yearsOfRules[rule] = years;
        }
        if (years.latest < 0) {
            years.keep(0, land.heights);
        }
        return years;
    }

    /** The water's heights and dykes as they are behind a year that has run. */
    private void takeUp(Years years, int year) {
        for (int cell = 0; cell < MAX_CELLS; cell++) {
            water.heights[cell] = years.heightOf(year, cell);
            water.dykes[cell] = false;
        }
        for (int n = 1; n <= year; n++) {
            plan.dykesIn(n, land, water);
        }
    }

    /** The first entry, from one on, that is known by a day and that a rule does not agree with. */
    private int againstFrom(int from, int rule, int day) {
        for (int i = from; i < entries.total; i++) {
            if (entries.days[i] <= day) {
                int year = entries.years[i];
                if (runTo(rule, year).heightOf(year, entries.cells[i]) != entries.heights[i]) {
                    return i;
                }
            }
        }
        return NONE;
    }

    private static int trend(int before, int least, int greatest) {
        if (least > before) {
            return 1;
        }
        return greatest < before ? -1 : 0;
    }

    private static boolean within(int n, int least, int greatest) {
        return n >= least && n <= greatest;
    }

    private static boolean isDay(int known) {
        return within(known, 0, MAX_DAY);
    }

    /** Rows are always as long as the widest land's: cells keep their order, and no width divides. */
    private static int cellAt(int x, int y) {
        return y * MAX_WIDTH + x;
    }

    private static int sortOf(int rule) {
        return rule / 12;
    }

    private static int rateOf(int rule) {
        return 1 + rule / 2 % 6;
    }

    private static int wearOf(int rule) {
        return rule % 2;
    }

    /** The land as of year 0, its lake and its spring. */
    private static final class Land {
        final int[] heights = new int[MAX_CELLS];
        int width;
        int depth;
        int springCell;
        int springFlow = 64;
        int lakeLevel = 40;

        Land() {
            layOut(6, 6);
        }

        void layOut(int w, int h) {
            width = w;
            depth = h;
            springCell = 0;
            for (int cell = 0; cell < MAX_CELLS; cell++) {
                heights[cell] = 50;
            }
        }

        boolean has(int x, int y) {
            return x >= 0 && x < width && y >= 0 && y < depth;
        }

        int raise(int x, int y, int u, int v, int height) {
            int raised = 0;
            for (int row = y; row <= v; row++) {
                for (int column = x; column <= u; column++) {
                    heights[cellAt(column, row)] = height;
                    raised++;
                }
            }
            return raised;
        }
    }

    /** The bytes that a plan is read from. */
    private static final class Tape {
        final byte[] bytes = new byte[MAX_BYTES];
        int length;

        void addFour(int number) {
            for (int shift = 24; shift >= 0 && length < MAX_BYTES; shift -= 8) {
                bytes[length] = (byte) (number >> shift);
                length++;
            }
        }
    }

    /** The acts of a plan, in the order of its text. */
    private static final class Plan {
        final int[] years = new int[MAX_ACTS];
        final int[] kinds = new int[MAX_ACTS];
        final int[] columns = new int[MAX_ACTS];
        final int[] rows = new int[MAX_ACTS];
        final int[] numbers = new int[MAX_ACTS];
        int total;

        void workIn(int year, Land land, Water water) {
            dykesIn(year, land, water);
            for (int act = 0; act < total; act++) {
                if (years[act] == year && land.has(columns[act], rows[act])) {
                    int cell = cellAt(columns[act], rows[act]);
                    int height = water.heights[cell];
                    if (kinds[act] == CUT) {
                        water.heights[cell] = Math.max(0, height - numbers[act]);
                    } else if (kinds[act] == DREDGE) {
                        water.heights[cell] = Math.min(height, numbers[act]);
                    }
                }
            }
        }

        /** Apart from the digging, since years that have run are taken up with their dykes alone. */
        void dykesIn(int year, Land land, Water water) {
            for (int act = 0; act < total; act++) {
                if (years[act] == year && land.has(columns[act], rows[act])) {
                    int cell = cellAt(columns[act], rows[act]);
                    if (kinds[act] == DYKE) {
                        water.dykes[cell] = true;
                    } else if (kinds[act] == OPEN) {
                        water.dykes[cell] = false;
                    }
                }
            }
        }
    }

    /** Reads a plan from the tape, token by token. */
    private static final class Reader {
        private final Tape text;
        private final Plan acts;
        private int start;
        private int stop;
        private int number;

        Reader(Tape text, Plan acts) {
            this.text = text;
            this.acts = acts;
        }

        /** Where the fault is; NONE without. */
        int readPlan() {
            acts.total = 0;
            step();
            if (atEnd()) {
                return NONE;
            }
            for (int act = 0; act < MAX_ACTS; act++) {
                if (!readAct(act)) {
                    return start;
                }
                acts.total = act + 1;
                if (atEnd()) {
                    return NONE;
                }
                if (!takes(";")) {
                    return start;
                }
            }
            return start;
        }

        private boolean readAct(int act) {
            if (!takes("year") || !takesNumber(1, MAX_YEAR)) {
                return false;
            }
            acts.years[act] = number;
            int kind = takeKind();
            if (kind == NONE || !takesNumber(0, MAX_WIDTH - 1)) {
                return false;
            }
            acts.kinds[act] = kind;
            acts.columns[act] = number;
            if (!takesNumber(0, MAX_DEPTH - 1)) {
                return false;
            }
            acts.rows[act] = number;
            if (kind == DYKE || kind == OPEN) {
                return true;
            }
            if (!takes(kind == CUT ? "by" : "to") || !takesNumber(0, MAX_HEIGHT)) {
                return false;
            }
            acts.numbers[act] = number;
            return true;
        }

        private int takeKind() {
            if (takes("dyke")) {
                return DYKE;
            }
            if (takes("open")) {
                return OPEN;
            }
            if (takes("cut")) {
                return CUT;
            }
            return takes("dredge") ? DREDGE : NONE;
        }

        private boolean takes(String word) {
            if (stop - start != word.length()) {
                return false;
            }
            for (int i = 0; i < word.length(); i++) {
                if (text.bytes[start + i] != word.charAt(i)) {
                    return false;
                }
            }
            step();
            return true;
        }

        private boolean takesNumber(int least, int greatest) {
            if (atEnd() || !isDigit(text.bytes[start])) {
                return false;
            }
            int value = 0;
            for (int i = start; i < stop; i++) {
                // A row of digits may be far longer than an int: beyond the greatest it only stays too great.
                value = Math.min(greatest + 1, 10 * value + text.bytes[i] - '0');
            }
            if (!within(value, least, greatest)) {
                return false;
            }
            number = value;
            step();
            return true;
        }

        private boolean atEnd() {
            return start >= text.length;
        }

        /** On to the next token; at the end it is empty and starts at the text's length. */
        private void step() {
            start = stop;
            while (start < text.length && text.bytes[start] == ' ') {
                start++;
            }
            stop = start;
            if (atEnd()) {
                return;
            }
            stop++;
            boolean letters = isLetter(text.bytes[start]);
            boolean digits = isDigit(text.bytes[start]);
            while (stop < text.length
                    && (letters && isLetter(text.bytes[stop]) || digits && isDigit(text.bytes[stop]))) {
                stop++;
            }
        }

        private static boolean isLetter(int sign) {
            return sign >= 'a' && sign <= 'z';
        }

        private static boolean isDigit(int sign) {
            return sign >= '0' && sign <= '9';
        }
    }

    /** The entries of all maps, in the order in which they came. */
    private static final class Entries {
        final int[] years = new int[MAX_ENTRIES];
        final int[] cells = new int[MAX_ENTRIES];
        final int[] heights = new int[MAX_ENTRIES];
        final int[] days = new int[MAX_ENTRIES];
        int total;

        void add(int year, int cell, int height, int day) {
            if (total < MAX_ENTRIES) {
                years[total] = year;
                cells[total] = cell;
                heights[total] = height;
                days[total] = day;
                total++;
            }
        }
    }

    /** The heights behind each year that a rule has run; eight to a long, since 36 rules share the room. */
    private static final class Years {
        private static final int IN_A_LONG = 8;
        private static final int LONGS_A_YEAR = MAX_CELLS / IN_A_LONG;

        private final long[] packed = new long[(MAX_YEAR + 1) * LONGS_A_YEAR];
        int latest = NONE;

        void keep(int year, int[] heights) {
            for (int i = 0; i < LONGS_A_YEAR; i++) {
                long eight = 0;
                for (int k = IN_A_LONG - 1; k >= 0; k--) {
                    eight = eight << 8 | heights[i * IN_A_LONG + k];
                }
                packed[year * LONGS_A_YEAR + i] = eight;
            }
            latest = year;
        }

        int heightOf(int year, int cell) {
            long eight = packed[year * LONGS_A_YEAR + cell / IN_A_LONG];
            return (int) (eight >>> 8 * (cell % IN_A_LONG)) & 255;
        }
    }

    /** The water of one year on its way down, and the heights and dykes that it meets. */
    private static final class Water {
        final int[] heights = new int[MAX_CELLS];
        final boolean[] dykes = new boolean[MAX_CELLS];
        final int[] came = new int[MAX_CELLS];
        private final boolean[] pits = new boolean[MAX_CELLS];
        private final int[] wet = new int[MAX_CELLS];
        private int wetTotal;
        private final int[] ways = new int[SIDES];
        private final int[] drops = new int[SIDES];
        private final int[] shares = new int[SIDES];
        private final int[] rests = new int[SIDES];
        private int waysTotal;

        /** Only wet cells are gone through: a dry one has nothing to give on. */
        void run(Land land, int sort) {
            dryUp();
            pour(land.springCell, land.springFlow);
            for (int i = 0; i < wetTotal && i < MAX_CELLS; i++) {
                giveOn(land, wet[i], sort);
            }
        }

        private void dryUp() {
            for (int i = 0; i < wetTotal && i < MAX_CELLS; i++) {
                came[wet[i]] = 0;
            }
            wetTotal = 0;
        }

        void settle(int lakeLevel, int rate, int wear) {
            for (int i = 0; i < wetTotal && i < MAX_CELLS; i++) {
                int cell = wet[i];
                int height = heights[cell];
                if (height < lakeLevel) {
                    heights[cell] = Math.min(lakeLevel, height + came[cell] * rate / 16);
                } else if (pits[cell]) {
                    heights[cell] = Math.min(MAX_HEIGHT, height + 1);
                } else if (came[cell] >= 16) {
                    heights[cell] = Math.max(0, height - wear);
                }
            }
        }

        private void giveOn(Land land, int cell, int sort) {
            findWays(land, cell);
            pits[cell] = waysTotal == 0;
            if (sort == SORT_LOWEST) {
                shareToLowest(came[cell]);
            } else if (sort == SORT_EVEN) {
                shareEvenly(came[cell]);
            } else {
                shareByDrops(came[cell]);
            }
            for (int i = 0; i < waysTotal; i++) {
                pour(ways[i], shares[i]);
            }
        }

        private void findWays(Land land, int cell) {
            waysTotal = 0;
            for (int side = 0; side < SIDES; side++) {
                int x = cell % MAX_WIDTH + SIDE_X[side];
                int y = cell / MAX_WIDTH + SIDE_Y[side];
                if (land.has(x, y)) {
                    int next = cellAt(x, y);
                    if (heights[next] < heights[cell] && !dykes[next]) {
                        ways[waysTotal] = next;
                        drops[waysTotal] = heights[cell] - heights[next];
                        waysTotal++;
                    }
                }
            }
        }

        private void shareToLowest(int flow) {
            int lowest = firstGreatest(drops);
            for (int i = 0; i < waysTotal; i++) {
                shares[i] = i == lowest ? flow : 0;
            }
        }

        private void shareEvenly(int flow) {
            if (waysTotal > 0) {
                for (int i = 0; i < waysTotal; i++) {
                    shares[i] = flow / waysTotal + (i < flow % waysTotal ? 1 : 0);
                }
            }
        }

        private void shareByDrops(int flow) {
            int allDrops = 0;
            for (int i = 0; i < waysTotal; i++) {
                allDrops += drops[i];
            }
            if (allDrops <= 0) {
                return;
            }
            int left = flow;
            for (int i = 0; i < waysTotal; i++) {
                shares[i] = flow * drops[i] / allDrops;
                rests[i] = flow * drops[i] % allDrops;
                left -= shares[i];
            }
            for (int k = 0; k < left; k++) {
                int next = firstGreatest(rests);
                shares[next]++;
                rests[next] = -1;
            }
        }

        private int firstGreatest(int[] row) {
            int best = 0;
            for (int i = 1; i < waysTotal; i++) {
                if (row[i] > row[best]) {
                    best = i;
                }
            }
            return best;
        }

        /** A cell that gets wet lies lower than all that have given on, so it is put in behind them. */
        private void pour(int cell, int flow) {
            if (flow > 0 && came[cell] == 0 && wetTotal < MAX_CELLS) {
                int place = wetTotal;
                while (place > 0 && goesAhead(cell, wet[place - 1])) {
                    wet[place] = wet[place - 1];
                    place--;
                }
                wet[place] = cell;
                wetTotal++;
            }
            came[cell] += flow;
        }

        private boolean goesAhead(int cell, int other) {
            if (heights[cell] != heights[other]) {
                return heights[cell] > heights[other];
            }
            return cell < other;
        }
    }
}
