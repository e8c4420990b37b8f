/**
 * Terms I and IV and the promises but for the plan's: each sentence that names a bound, with the least
 * and the greatest value that is taken and the first ones beyond.
 */
public final class BoundsOfCallsTest {
    private static final int[] FAR = {Integer.MIN_VALUE, Integer.MAX_VALUE};
    private static final int[][] SIZES = {{2, 2}, {12, 10}, {6, 6}, {2, 10}, {12, 2}, {5, 7}};

    public static void main(String[] args) {
        atFirst();
        sizes();
        sizeLeavesAndTakes();
        entriesLeftByOthers();
        cells();
        partsOfLand();
        heightsOfLand();
        levels();
        lowerThanLevel();
        flowsOfTheSpring();
        refusedSpring();
        refusedInOrder();
        feeds();
        ends();
        rulesAndYears();
        lakes();
        entriesOfMaps();
        twoHundredEntries();
        knownByADay();
        ithThatStays();
        foretoldBounds();
        growsOrSinks();
        wastedEntries();
        firstAndLastRule();
        againstEntries();
        counts();
        statusOfEach();
        statusLeft();
        objectsApart();
        askedInAnyOrder();
        lastCall();
        Due.end();
    }

    private static void atFirst() {
        Due.sentence("1: 6 times 6 CELLS of HEIGHT 50; no PLAN, ENTRIES");
        DeltaRuns d = new DeltaRuns();
        int[] counts = {6, 6, 40, 64, 0, 0, 0};
        for (int what = 0; what < counts.length; what++) {
            Due.due("count " + what, d.count(what), counts[what]);
        }
        for (int x = -1; x <= 6; x++) {
            for (int y = -1; y <= 6; y++) {
                boolean cell = x >= 0 && x < 6 && y >= 0 && y < 6;
                Due.due("height of " + x + ", " + y, d.height(0, 0, x, y), cell ? 50 : -1);
                Due.due("flow of " + x + ", " + y, d.flow(0, 1, x, y), !cell ? -1 : x == 0 && y == 0 ? 64 : 0);
            }
        }
        Due.due("stays", d.stays(-1, 1000), 36);
        Due.due("against", d.against(0, 1000), -1);
        Due.due("wasted", d.wasted(1000), -1);
        Due.due("fault", d.fault(), -1);
        Due.due("status", d.status(), 0);
    }

    private static void sizes() {
        Due.sentence("I: W times H CELLS (2 .. 12, 2 .. 10)");
        int[] some = {Integer.MIN_VALUE, -2, -1, 0, 1, 2, 3, 9, 10, 11, 12, 13, 14, Integer.MAX_VALUE};
        for (int w : some) {
            for (int h : some) {
                DeltaRuns d = new DeltaRuns();
                boolean taken = w >= 2 && w <= 12 && h >= 2 && h <= 10;
                String call = "size(" + w + ", " + h + ")";
                Due.due(call, d.size(w, h), taken ? 0 : -1);
                Due.due(call + " status", d.status(), taken ? 0 : -1);
                Due.due(call + " W", d.count(0), taken ? w : 6);
                Due.due(call + " H", d.count(1), taken ? h : 6);
                int right = taken ? w - 1 : 5;
                int top = taken ? h - 1 : 5;
                Due.due(call + " the last cell", d.height(0, 0, right, top), 50);
                Due.due(call + " beyond x", d.height(0, 0, right + 1, 0), -1);
                Due.due(call + " beyond y", d.height(0, 0, 0, top + 1), -1);
                Due.due(call + " all cells", d.land(0, 0, right, top, 1), (right + 1) * (top + 1));
            }
        }
    }

    private static void sizeLeavesAndTakes() {
        Due.sentence("2: all HEIGHTS are 50, SPRING 0; ENTRIES are none");
        for (int[] size : SIZES) {
            DeltaRuns d = used();
            int acts = d.count(4);
            Due.due("taken", d.size(size[0], size[1]), 0);
            for (int x = 0; x < size[0]; x++) {
                for (int y = 0; y < size[1]; y++) {
                    Due.due("height of " + x + ", " + y, d.height(35, 0, x, y), 50);
                    Due.due("under a RULE that had run", d.height(0, 0, x, y), 50);
                }
            }
            Due.due("it runs anew", d.height(0, 1, 0, 0), 51);
            Due.due("ENTRIES", d.count(5), 0);
            Due.due("all RULES stay", d.stays(-1, 1000), 36);
            Due.due("SPRING", d.flow(0, 1, 0, 0), 1000);
            Due.due("LEVEL is left", d.count(2), 30);
            Due.due("FLOW is left", d.count(3), 1000);
            Due.due("ACTS are left", d.count(4), acts);
            Due.due("the TAPE is left", d.count(6), 20);
        }
        Due.sentence("2: -1");
        DeltaRuns d = used();
        int before = d.height(1, 3, 2, 3);
        Due.due("refused", d.size(12, 11), -1);
        Due.due("HEIGHTS", d.height(1, 3, 2, 3), before);
        Due.due("HEIGHTS as of YEAR 0", d.height(0, 0, 11, 9), 90);
        Due.due("SPRING", d.flow(0, 1, 2, 3), 1000);
        Due.due("ENTRIES", d.count(5), 1);
        Due.due("known yet", d.against(0, 0), 0);
    }

    private static void entriesLeftByOthers() {
        Due.sentence("2: size: ENTRIES are none (and by no call but size)");
        DeltaRuns d = new DeltaRuns();
        d.map(0, 1, 1, 50, 3);
        d.map(0, 2, 2, 51, 4);
        int[] others = {d.land(0, 0, 0, 0, 50), d.land(0, 0, 0, 0, 201), d.level(41), d.level(201), d.spring(3, 3, 65),
            d.spring(6, 6, 65), d.feed(0, 0, 0, 0, 0), d.plan(), d.plan(), d.map(31, 0, 0, 0, 0), d.size(1, 1)};
        int[] want = {1, -1, 0, -1, 0, -2, 20, -6, 0, -1, -1};
        for (int i = 0; i < want.length; i++) {
            Due.due("call " + i, others[i], want[i]);
        }
        Due.due("ENTRIES", d.count(5), 2);
        Due.due("the first", d.stays(-1, 3), 36);
        Due.due("the second", d.against(0, 4), 1);
    }

    private static DeltaRuns used() {
        DeltaRuns d = new DeltaRuns();
        d.size(12, 10);
        d.land(0, 0, 11, 9, 90);
        d.land(2, 3, 2, 3, 95);
        d.level(30);
        d.spring(2, 3, 1000);
        d.map(0, 0, 0, 91, 0);
        Due.plan(d, "year 9 cut 1 1 by 1");
        Due.due("feed", d.feed(1, 2, 3, 4, 5), 20);
        Due.due("ran", d.height(0, 30, 0, 0) >= 90 ? 1 : 0, 1);
        return d;
    }

    private static void cells() {
        Due.sentence("I: x 0 .. W - 1, y 0 .. H - 1; -2 there is no such CELL");
        for (int[] size : SIZES) {
            int w = size[0];
            int h = size[1];
            int[] xs = {-1, 0, w - 1, w, 12, FAR[0], FAR[1]};
            int[] ys = {-1, 0, h - 1, h, 10, FAR[0], FAR[1]};
            for (int x : xs) {
                for (int y : ys) {
                    callsOnACell(w, h, x, y);
                }
            }
        }
    }

    private static void callsOnACell(int w, int h, int x, int y) {
        boolean cell = x >= 0 && x < w && y >= 0 && y < h;
        String at = " of " + x + ", " + y + " on " + w + ", " + h;
        DeltaRuns d = new DeltaRuns();
        d.size(w, h);
        d.level(0);
        Due.due("spring" + at, d.spring(x, y, 7), cell ? 0 : -2);
        Due.due("status" + at, d.status(), cell ? 0 : -2);
        Due.due("FLOW" + at, d.count(3), cell ? 7 : 64);
        Due.due("flow" + at, d.flow(0, 1, x, y), cell ? 7 : -1);
        Due.due("land" + at, d.land(x, y, x, y, 9), cell ? 1 : -2);
        Due.due("status" + at, d.status(), cell ? 0 : -2);
        Due.due("height" + at, d.height(0, 0, x, y), cell ? 9 : -1);
        Due.due("map" + at, d.map(0, x, y, 9, 0), cell ? 1 : -2);
        Due.due("status" + at, d.status(), cell ? 0 : -2);
        Due.due("ENTRIES" + at, d.count(5), cell ? 1 : 0);
        Due.due("foretold" + at, d.foretold(x, y, 0, 0, 0), cell ? 9 : -100);
        Due.due("stays" + at, d.stays(-1, 0), 36);
    }

    private static void partsOfLand() {
        Due.sentence("3: CELLS from x, y to u, v: how many. -1 the order; -2");
        for (int x = -1; x <= 3; x++) {
            for (int u = -1; u <= 3; u++) {
                for (int y = -1; y <= 2; y++) {
                    for (int v = -1; v <= 2; v++) {
                        onePart(x, y, u, v);
                    }
                }
            }
        }
        DeltaRuns d = new DeltaRuns();
        Due.due("x far off", d.land(FAR[0], 0, 0, 0, 1), -2);
        Due.due("y far off", d.land(0, FAR[0], 0, 0, 1), -2);
        Due.due("u far off", d.land(0, 0, FAR[1], 0, 1), -2);
        Due.due("v far off", d.land(0, 0, 0, FAR[1], 1), -2);
        Due.due("u ahead of x, far off", d.land(FAR[1], 0, FAR[0], 0, 1), -1);
        Due.due("v ahead of y, far off", d.land(0, FAR[1], 0, FAR[0], 1), -1);
        Due.due("all", d.size(12, 10) + d.land(0, 0, 11, 9, 1), 120);
    }

    private static void onePart(int x, int y, int u, int v) {
        DeltaRuns d = new DeltaRuns();
        d.size(3, 2);
        boolean inside = x >= 0 && u < 3 && y >= 0 && v < 2;
        int want = x > u || y > v ? -1 : inside ? (u - x + 1) * (v - y + 1) : -2;
        String call = "land(" + x + ", " + y + ", " + u + ", " + v + ")";
        Due.due(call, d.land(x, y, u, v, 77), want);
        Due.due(call + " status", d.status(), Math.min(want, 0));
        for (int cx = 0; cx < 3; cx++) {
            for (int cy = 0; cy < 2; cy++) {
                boolean laid = want > 0 && cx >= x && cx <= u && cy >= y && cy <= v;
                Due.due(call + " at " + cx + ", " + cy, d.height(0, 0, cx, cy), laid ? 77 : 50);
            }
        }
    }

    private static void heightsOfLand() {
        Due.sentence("I: a HEIGHT (0 .. 200); 3: -1 HEIGHT");
        DeltaRuns d = new DeltaRuns();
        Due.edges("land", 0, 200, -1, n -> d.land(0, 0, 5, 5, n));
        for (int n : new int[] {-2, -1, 0, 1, 2, 49, 50, 51, 63, 64, 127, 128, 129, 198, 199, 200, 201, 202}) {
            boolean can = n >= 0 && n <= 200;
            int before = d.height(7, 0, 5, 5);
            Due.due("land to " + n, d.land(5, 5, 5, 5, n), can ? 1 : -1);
            Due.due("height behind " + n, d.height(7, 0, 5, 5), can ? n : before);
            Due.due("beside it", d.height(7, 0, 4, 5), 200);
        }
        Due.due("the greatest is kept through the YEARS", d.height(0, 30, 4, 5), 200);
        d.land(0, 0, 5, 5, 0);
        d.level(0);
        Due.due("the least, too", d.height(35, 30, 4, 5), 0);
        Due.due("a run is not that of the old land", d.height(0, 1, 0, 0), 1);
        d.land(0, 0, 0, 0, 10);
        Due.due("nor here", d.height(0, 1, 0, 0), 10);
    }

    private static void levels() {
        Due.sentence("I: LEVEL (0 .. 200; 40 at first); 4: LEVEL: 0; -1");
        DeltaRuns d = new DeltaRuns();
        Due.edges("level", 0, 200, -1, d::level);
        for (int n = -2; n <= 202; n++) {
            boolean can = n >= 0 && n <= 200;
            int before = d.count(2);
            Due.due("level " + n, d.level(n), can ? 0 : -1);
            Due.due("LEVEL behind " + n, d.count(2), can ? n : before);
        }
        DeltaRuns e = new DeltaRuns();
        e.land(0, 0, 5, 5, 39);
        Due.due("39 at first", e.lake(0, 0), 36);
        e.land(0, 0, 5, 5, 40);
        Due.due("40 at first", e.lake(0, 0), 0);
        Due.due("refused", e.level(201), -1);
        Due.due("it is 40 still", e.lake(0, 0), 0);
    }

    private static void lowerThanLevel() {
        Due.sentence("I: LAKE: a CELL lower than LEVEL");
        DeltaRuns d = new DeltaRuns();
        d.spring(5, 5, 0);
        int[] levels = {0, 1, 2, 40, 199, 200};
        for (int n : levels) {
            d.level(n);
            for (int height = Math.max(0, n - 1); height <= Math.min(200, n + 1); height++) {
                d.land(0, 0, 5, 5, 200);
                d.land(1, 1, 2, 3, height);
                int want = height < n ? 6 : 0;
                Due.due("lakes of " + height + " at " + n, d.lake(0, 0), want);
                Due.due("as of the last YEAR", d.lake(35, 30), want);
            }
        }
    }

    private static void flowsOfTheSpring() {
        Due.sentence("I: FLOW (0 .. 1000; 64 at first); 5: -1 FLOW");
        DeltaRuns d = new DeltaRuns();
        Due.due("at first", d.flow(0, 1, 0, 0), 64);
        Due.edges("spring", 0, 1000, -1, n -> d.spring(1, 1, n));
        int[] flows = {-2, -1, 0, 1, 2, 15, 16, 500, 999, 1000, 1001, 1002};
        for (int n : flows) {
            boolean can = n >= 0 && n <= 1000;
            int before = d.count(3);
            Due.due("spring of " + n, d.spring(1, 1, n), can ? 0 : -1);
            Due.due("FLOW behind " + n, d.count(3), can ? n : before);
            Due.due("flow behind " + n, d.flow(0, 1, 1, 1), can ? n : before);
            Due.due("none elsewhere", d.flow(0, 1, 0, 0), 0);
        }
        Due.due("each YEAR", d.spring(5, 5, 1), 0);
        for (int year = 1; year <= 30; year++) {
            Due.due("in YEAR " + year, d.flow(12, year, 5, 5), 1);
        }
    }

    private static void refusedSpring() {
        Due.sentence("5: SPRING and FLOW: 0. -1 FLOW; -2");
        DeltaRuns d = new DeltaRuns();
        d.spring(2, 2, 5);
        int[][] bad = {{3, 3, 1001, -1}, {3, 3, -1, -1}, {6, 3, 9, -2}, {3, 6, 9, -2}, {-1, 3, 9, -2}, {3, -1, 9, -2}};
        for (int[] b : bad) {
            Due.due("refused", d.spring(b[0], b[1], b[2]), b[3]);
            Due.due("FLOW", d.count(3), 5);
            Due.due("SPRING", d.flow(0, 1, 2, 2), 5);
        }
    }

    private static void refusedInOrder() {
        Due.sentence("I: The first of these in that order");
        DeltaRuns d = new DeltaRuns();
        Due.due("land: HEIGHT and the cell", d.land(0, 0, 6, 0, 201), -1);
        Due.due("land: HEIGHT and the cell", d.land(-1, 0, 0, 0, -1), -1);
        Due.due("land: the order and the cell", d.land(7, 0, 6, 0, 5), -1);
        Due.due("land: the order and the cell", d.land(0, -1, 0, -2, 5), -1);
        Due.due("land: the order of y alone", d.land(-1, 1, 0, 0, 5), -1);
        Due.due("land: HEIGHT and the order", d.land(1, 0, 0, 0, 201), -1);
        Due.due("spring: FLOW and the cell", d.spring(6, 0, 1001), -1);
        Due.due("spring: FLOW and the cell", d.spring(0, -1, -1), -1);
        Due.due("map: YEAR and the cell", d.map(31, 6, 0, 0, 0), -1);
        Due.due("map: HEIGHT and the cell", d.map(0, 6, 0, 201, 0), -1);
        Due.due("map: a day and the cell", d.map(0, 0, 6, 0, 1001), -1);
        fillMaps(d);
        Due.due("map: the cell and no room", d.map(0, 6, 0, 0, 0), -2);
        Due.due("map: the cell and no room", d.map(0, 0, -1, 0, 0), -2);
        Due.due("map: YEAR and no room", d.map(-1, 0, 0, 0, 0), -1);
        Due.due("map: HEIGHT and no room", d.map(0, 0, 0, 201, 0), -1);
        Due.due("map: a day and no room", d.map(0, 0, 0, 0, -1), -1);
        Due.due("map: all of them", d.map(31, 6, 6, 201, 1001), -1);
        Due.due("map: no room", d.map(0, 0, 0, 0, 0), -5);
    }

    private static void fillMaps(DeltaRuns d) {
        for (int i = d.count(5); i < 200; i++) {
            Due.due("entry " + i, d.map(0, 0, 0, 50, 0), i + 1);
        }
    }

    private static void feeds() {
        Due.sentence("6: Twenty bytes come behind the TAPE: NONE, if there would be more than 300");
        for (int less = 0; less <= 20; less++) {
            DeltaRuns d = new DeltaRuns();
            for (int i = 1; i <= 15; i++) {
                Due.due("feed " + i, d.feed(-1, 0, 1, FAR[0], FAR[1]), 20 * i);
            }
            Due.due("the TAPE is full", d.feed(0, 0, 0, 0, 0), -1);
            Due.due("bytes", d.count(6), 300);
            Due.due("end", d.end(300 - less), 300 - less);
            Due.due("feed at " + (300 - less), d.feed(0, 0, 0, 0, 0), less == 20 ? 300 : -1);
            Due.due("bytes then", d.count(6), less == 20 ? 300 : 300 - less);
            Due.due("status", d.status(), 0);
        }
        Due.sentence("6: four of each number, the highest first");
        DeltaRuns d = new DeltaRuns();
        // Each byte of twenty in turn is one that no plan can have: the fault is its place.
        for (int place = 0; place < 20; place++) {
            int[] five = {0x20202020, 0x20202020, 0x20202020, 0x20202020, 0x20202020};
            five[place / 4] ^= 0xDF << 24 - 8 * (place % 4);
            Due.due("feed", d.feed(five[0], five[1], five[2], five[3], five[4]), 20);
            Due.due("plan", d.plan(), -6);
            Due.due("fault", d.fault(), place);
        }
        for (int place = 20; place < 40; place++) {
            int[] five = {0x20202020, 0x20202020, 0x20202020, 0x20202020, 0x20202020};
            d.feed(five[0], five[1], five[2], five[3], five[4]);
            five[(place - 20) / 4] &= ~(0xFF << 24 - 8 * (place % 4));
            Due.due("behind the TAPE", d.feed(five[0], five[1], five[2], five[3], five[4]), 40);
            Due.due("plan", d.plan(), -6);
            Due.due("fault", d.fault(), place);
        }
    }

    private static void ends() {
        Due.sentence("7: its first n bytes alone: n. NONE, if it has not so many, or n is below 0");
        DeltaRuns d = new DeltaRuns();
        Due.edges("end of an empty TAPE", 0, 0, -1, d::end);
        d.feed(0, 0, 0, 0, 0);
        for (int n : new int[] {21, 22, 300, 301, FAR[1], -1, -2, FAR[0]}) {
            Due.due("end " + n, d.end(n), -1);
            Due.due("bytes", d.count(6), 20);
        }
        for (int n = 20; n >= 0; n--) {
            Due.due("end " + (n + 1), d.end(n + 1), n == 20 ? -1 : n + 1);
            Due.due("end " + n, d.end(n), n);
            Due.due("bytes", d.count(6), n);
        }
        for (int i = 1; i <= 15; i++) {
            d.feed(0, 0, 0, 0, 0);
        }
        Due.due("301", d.end(301), -1);
        Due.due("300", d.end(300), 300);
        Due.due("status", d.status(), 0);
        d.end(0);
        Due.feed(d, "year 1 dyke 0 0x");
        Due.due("but for the last byte", d.end(15), 15);
        Due.due("it is gone", d.plan(), 1);
    }

    private static void rulesAndYears() {
        DeltaRuns d = new DeltaRuns();
        Due.sentence("II: A RULE r, 0 .. 35");
        Due.edges("height", 0, 35, -1, r -> d.height(r, 0, 0, 0));
        Due.edges("height, late", 0, 35, -1, r -> d.height(r, 30, 5, 5));
        Due.edges("flow", 0, 35, -1, r -> d.flow(r, 1, 0, 0));
        Due.edges("lake", 0, 35, -1, r -> d.lake(r, 0));
        Due.sentence("III: HEIGHT of a CELL as of a YEAR (0 .. 30)");
        Due.edges("height", 0, 30, -1, n -> d.height(0, n, 0, 0));
        Due.edges("lake", 0, 30, -1, n -> d.lake(0, n));
        Due.edges("foretold", 0, 30, -100, n -> d.foretold(0, 0, n, 0, 0));
        Due.sentence("11: in a YEAR (1 .. 30)");
        Due.edges("flow", 1, 30, -1, n -> d.flow(0, n, 0, 0));
        Due.edges("flow, the last RULE", 1, 30, -1, n -> d.flow(35, n, 0, 0));
    }

    private static void lakes() {
        Due.sentence("12: How many CELLS are LAKE");
        for (int[] size : SIZES) {
            DeltaRuns d = new DeltaRuns();
            d.size(size[0], size[1]);
            Due.due("none", d.lake(0, 0), 0);
            d.level(51);
            Due.due("all", d.lake(35, 0), size[0] * size[1]);
            d.land(size[0] - 1, size[1] - 1, size[0] - 1, size[1] - 1, 51);
            Due.due("but the last", d.lake(0, 0), size[0] * size[1] - 1);
            d.land(0, 0, 0, 0, 51);
            Due.due("but the first, too", d.lake(12, 0), size[0] * size[1] - 2);
            Due.due("filled, the first two", d.lake(10, 1), size[0] * size[1] - 3);
        }
    }

    private static void entriesOfMaps() {
        Due.sentence("IV: a YEAR (0 .. 30), its HEIGHT, known from a day on (0 .. 1000)");
        DeltaRuns d = new DeltaRuns();
        Due.edges("YEAR", 0, 30, -1, n -> d.map(n, 0, 0, 50, 0));
        Due.due("two", d.count(5), 2);
        Due.edges("HEIGHT", 0, 200, -1, n -> d.map(0, 0, 0, n, 0));
        Due.due("four", d.count(5), 4);
        Due.edges("a day", 0, 1000, -1, n -> d.map(0, 0, 0, 50, n));
        Due.due("six", d.count(5), 6);
        Due.due("refused", d.map(31, 0, 0, 50, 0), -1);
        Due.due("status", d.status(), -1);
        Due.due("six still", d.count(5), 6);
        Due.due("how many there are", d.map(30, 5, 5, 200, 1000), 7);
        DeltaRuns e = Due.flat(2, 2, 0);
        e.spring(0, 0, 0);
        e.land(1, 1, 1, 1, 200);
        Due.due("HEIGHT 0", e.map(30, 1, 0, 0, 0) + e.stays(-1, 1000), 37);
        Due.due("HEIGHT 200", e.map(0, 1, 1, 200, 0) + e.stays(-1, 1000), 38);
        Due.due("HEIGHT 199 is another", e.map(30, 1, 1, 199, 0) + e.stays(-1, 1000), 3);
    }

    private static void twoHundredEntries() {
        Due.sentence("IV: ENTRIES, 200 at most; -5 no room");
        DeltaRuns d = new DeltaRuns();
        for (int i = 0; i < 198; i++) {
            Due.due("entry " + i, d.map(0, 0, 0, 50, 0), i + 1);
        }
        Due.due("the 199th", d.map(0, 1, 1, 50, 999), 199);
        Due.due("the 200th", d.map(30, 5, 5, 51, 1000), 200);
        Due.due("the 201st", d.map(0, 0, 0, 51, 0), -5);
        Due.due("status", d.status(), -5);
        Due.due("200", d.count(5), 200);
        Due.due("the 200th is not known", d.stays(-1, 999), 36);
        Due.due("the 200th is known", d.stays(-1, 1000), 0);
        Due.due("it is against", d.against(35, 1000), 199);
        Due.due("it is wasted", d.wasted(1000), 199);
        Due.due("none again", d.size(6, 6) + d.count(5), 0);
        Due.due("room again", d.map(0, 0, 0, 51, 0), 1);
        Due.due("the old ones are gone", d.against(0, 1000), 0);
    }

    private static void knownByADay() {
        Due.sentence("IV: RULES that STAY as known on a day: all ENTRIES known by then");
        int[] days = {0, 1, 2, 499, 500, 501, 998, 999, 1000};
        for (int known : days) {
            DeltaRuns d = new DeltaRuns();
            d.map(0, 3, 3, 51, known);
            for (int day : days) {
                boolean told = known <= day;
                String on = " of " + known + " on " + day;
                Due.due("stays" + on, d.stays(-1, day), told ? 0 : 36);
                Due.due("the first" + on, d.stays(0, day), told ? -1 : 0);
                Due.due("foretold" + on, d.foretold(3, 3, 0, day, 0), told ? -100 : 50);
                Due.due("wasted" + on, d.wasted(day), told ? 0 : -1);
                Due.due("against" + on, d.against(0, day), told ? 0 : -1);
            }
        }
        DeltaRuns d = new DeltaRuns();
        d.map(0, 0, 0, 51, 0);
        Due.edges("stays", 0, 1000, -1, n -> d.stays(-1, n));
        Due.edges("wasted", 0, 1000, -1, d::wasted);
        Due.edges("against", 0, 1000, -1, n -> d.against(0, n));
        DeltaRuns e = new DeltaRuns();
        Due.edges("the first that stays", 0, 1000, -1, n -> e.stays(0, n));
        Due.edges("foretold", 0, 1000, -100, n -> e.foretold(0, 0, 0, n, 1));
    }

    /** A spring beside a lake: what one year lays there tells the RATE, what the spring lost the WEAR. */
    private static DeltaRuns springAtLake() {
        DeltaRuns d = Due.flat(3, 2, 60);
        d.level(40);
        d.land(0, 0, 0, 0, 55);
        d.land(1, 0, 1, 0, 20);
        d.spring(0, 0, 32);
        return d;
    }

    private static void ithThatStays() {
        Due.sentence("14: the i-th; how many (i -1). NONE");
        DeltaRuns d = springAtLake();
        for (int i = -3; i <= 38; i++) {
            Due.due("of 36 the " + i, d.stays(i, 0), i == -1 ? 36 : i < 0 || i > 35 ? -1 : i);
        }
        d.map(1, 1, 0, 32, 1);
        int[] six = {10, 11, 22, 23, 34, 35};
        d.map(1, 0, 0, 54, 2);
        int[] three = {11, 23, 35};
        d.map(0, 0, 0, 54, 3);
        for (int i = -3; i <= 38; i++) {
            Due.due("of 6 the " + i, d.stays(i, 1), i == -1 ? 6 : i < 0 || i > 5 ? -1 : six[i]);
            Due.due("of 3 the " + i, d.stays(i, 2), i == -1 ? 3 : i < 0 || i > 2 ? -1 : three[i]);
            Due.due("of none the " + i, d.stays(i, 3), i == -1 ? 0 : -1);
        }
        Due.due("least int", d.stays(FAR[0], 0), -1);
        Due.due("greatest int", d.stays(FAR[1], 0), -1);
    }

    private static void foretoldBounds() {
        Due.sentence("15: 0 the least, 1 the greatest HEIGHT, 2 ..; NOTHING (-100) without, and if no RULE STAYS");
        DeltaRuns d = springAtLake();
        Due.edges("what", 0, 2, -100, n -> d.foretold(1, 0, 1, 0, n));
        Due.due("least", d.foretold(1, 0, 1, 0, 0), 22);
        Due.due("greatest", d.foretold(1, 0, 1, 0, 1), 32);
        Due.due("GROWS", d.foretold(1, 0, 1, 0, 2), 1);
        Due.due("least as of YEAR 0", d.foretold(1, 0, 0, 0, 0), 20);
        Due.due("greatest as of YEAR 0", d.foretold(1, 0, 0, 0, 1), 20);
        d.map(1, 1, 0, 33, 10);
        for (int what = -1; what <= 3; what++) {
            Due.due("no RULE STAYS, " + what, d.foretold(1, 0, 1, 10, what), -100);
            Due.due("as of YEAR 0, " + what, d.foretold(1, 0, 0, 10, what), -100);
        }
        Due.due("the day before", d.foretold(1, 0, 1, 9, 0), 22);
        DeltaRuns e = Due.flat(2, 2, 200);
        e.spring(0, 0, 0);
        e.land(1, 1, 1, 1, 0);
        Due.due("200 is the least", e.foretold(0, 1, 30, 0, 0), 200);
        Due.due("200 is the greatest", e.foretold(0, 1, 30, 0, 1), 200);
        Due.due("0 is the least", e.foretold(1, 1, 30, 0, 0), 0);
        Due.due("0 is the greatest", e.foretold(1, 1, 30, 0, 1), 0);
    }

    private static void growsOrSinks() {
        Due.sentence("IV: it GROWS, if under all of them it is higher than as of YEAR 0, SINKS, if lower");
        DeltaRuns d = springAtLake();
        Due.due("neither as of YEAR 0", d.foretold(1, 0, 0, 0, 2), 0);
        Due.due("higher under all", d.foretold(1, 0, 1, 0, 2), 1);
        Due.due("lower under some, alike under others", d.foretold(0, 0, 1, 0, 2), 0);
        Due.due("alike under all", d.foretold(2, 1, 30, 0, 2), 0);
        d.map(1, 0, 0, 54, 5);
        Due.due("lower under all that STAY", d.foretold(0, 0, 1, 5, 2), -1);
        Due.due("not yet known", d.foretold(0, 0, 1, 4, 2), 0);
        d.spring(0, 0, 15);
        d.size(3, 2);
        d.land(0, 0, 0, 0, 55);
        d.land(1, 0, 1, 0, 20);
        Due.due("15 lay none under RATE 1 alone", d.foretold(1, 0, 1, 0, 2), 0);
        Due.due("the least is alike", d.foretold(1, 0, 1, 0, 0), 20);
        Due.due("the greatest is higher", d.foretold(1, 0, 1, 0, 1), 25);
        d.map(1, 1, 0, 21, 6);
        Due.due("higher by 1 under all that STAY", d.foretold(1, 0, 1, 6, 2), 1);
        DeltaRuns e = springAtLake();
        Due.plan(e, "year 1 cut 0 0 by 1");
        e.spring(0, 0, 0);
        Due.due("lower by 1 under all", e.foretold(0, 0, 1, 0, 2), -1);
        Due.plan(e, "year 2 cut 0 0 by 1");
        Due.due("as of the YEAR before", e.foretold(0, 0, 1, 0, 2), 0);
        // Under RATE 6 the lake rises above what was cut off, under RATE 1 it does not.
        DeltaRuns f = springAtLake();
        Due.plan(f, "year 1 cut 1 0 by 4");
        Due.due("lower under some, higher under others", f.foretold(1, 0, 1, 0, 2), 0);
    }

    private static void wastedEntries() {
        Due.sentence("IV: WASTED: the first ENTRY without which some RULE would STAY, if none does");
        DeltaRuns d = springAtLake();
        Due.due("no ENTRY", d.wasted(0), -1);
        d.map(0, 2, 1, 60, 0);
        Due.due("some STAY", d.wasted(0), -1);
        d.map(1, 1, 0, 22, 1);
        Due.due("some STAY still", d.wasted(1), -1);
        d.map(1, 1, 0, 24, 2);
        Due.due("either could go: the first of them", d.wasted(2), 1);
        d.map(2, 1, 0, 28, 3);
        Due.due("two for RATE 2: the one for RATE 1", d.wasted(3), 1);
        d.map(2, 1, 0, 24, 4);
        Due.due("two for each: none alone", d.wasted(4), -1);
        Due.due("the day before", d.wasted(3), 1);
        DeltaRuns turned = springAtLake();
        turned.map(1, 1, 0, 24, 0);
        turned.map(1, 1, 0, 22, 0);
        Due.due("either could go, RATE 2's first", turned.wasted(0), 0);
        Due.sentence("16: the ENTRY's number (from 0 on); NONE (if some RULE STAYS, too)");
        DeltaRuns e = springAtLake();
        e.map(0, 0, 0, 1, 1000);
        Due.due("the only one, not known", e.wasted(999), -1);
        Due.due("the only one, number 0", e.wasted(1000), 0);
        e.map(0, 0, 0, 55, 5);
        e.map(0, 1, 0, 1, 5);
        Due.due("one not known counts in the number", e.wasted(5), 2);
        Due.due("both known", e.wasted(1000), -1);
        DeltaRuns f = springAtLake();
        f.map(0, 0, 0, 1, 0);
        f.map(0, 0, 0, 1, 0);
        Due.due("the same twice", f.wasted(0), -1);
    }

    /** Five heights behind one year that no two rules make alike. */
    private static DeltaRuns madeBy(int rule) {
        DeltaRuns d = Due.flat(3, 3, 200);
        d.level(40);
        int[] x = {1, 2, 1, 0, 1};
        int[] y = {1, 1, 2, 1, 0};
        int[] heights = {55, 30, 20, 10, 5};
        d.spring(1, 1, 64);
        for (int i = 0; i < 5; i++) {
            Due.put(d, x[i], y[i], heights[i]);
        }
        for (int i = 0; i < 5; i++) {
            Due.due("entry", d.map(1, x[i], y[i], d.height(rule, 1, x[i], y[i]), 7), i + 1);
        }
        return d;
    }

    private static void firstAndLastRule() {
        Due.sentence("II: A RULE r, 0 .. 35 (each may be the one that STAYS)");
        for (int rule = 0; rule < 36; rule++) {
            DeltaRuns d = madeBy(rule);
            Due.due("how many STAY", d.stays(-1, 7), 1);
            Due.due("RULE " + rule, d.stays(0, 7), rule);
            Due.due("no second", d.stays(1, 7), -1);
            Due.due("it is not against", d.against(rule, 7), -1);
            Due.due("least of " + rule, d.foretold(1, 0, 2, 7, 0), d.height(rule, 2, 1, 0));
            Due.due("greatest of " + rule, d.foretold(1, 0, 2, 7, 1), d.height(rule, 2, 1, 0));
            Due.due("one STAYS, so none is WASTED", d.wasted(7), -1);
            Due.due("one too many", d.map(0, 0, 0, 199, 8), 6);
            Due.due("without it RULE " + rule + " would STAY", d.wasted(8), 5);
            Due.due("the day before", d.wasted(7), -1);
        }
    }

    private static void againstEntries() {
        Due.sentence("17: The first ENTRY known by then with which a RULE does not agree; NONE");
        DeltaRuns d = springAtLake();
        d.map(1, 1, 0, 22, 100);
        d.map(1, 1, 0, 24, 50);
        Due.due("ahead of both", d.against(4, 49), -1);
        Due.due("one known", d.against(4, 50), 1);
        Due.due("the day before the other", d.against(4, 99), 1);
        Due.due("both known", d.against(4, 100), 0);
        Due.due("agrees with the first", d.against(0, 100), 1);
        Due.due("agrees with the second", d.against(2, 100), 0);
        Due.due("agrees with what is known", d.against(2, 99), -1);
        Due.edges("RULE", 0, 35, -1, r -> d.against(r, 100));
    }

    private static void counts() {
        Due.sentence("18: 0 W, 1 H, 2 LEVEL, 3 FLOW, 4 ACTS, 5 ENTRIES, 6 bytes of the TAPE. NONE for others");
        DeltaRuns d = used();
        Due.edges("what", 0, 6, -1, d::count);
        int[] greatest = {12, 10, 200, 1000, 20, 200, 300};
        d.level(200);
        fillMaps(d);
        d.end(0);
        Due.plan(d, "");
        Due.due("no ACTS", d.count(4), 0);
        Due.plan(d, "year1open0 0" + ";year1open0 0".repeat(19));
        for (int i = 0; i < 15; i++) {
            d.feed(0, 0, 0, 0, 0);
        }
        for (int what = 0; what < 7; what++) {
            Due.due("the greatest " + what, d.count(what), greatest[what]);
        }
        d.size(2, 2);
        d.level(0);
        d.spring(0, 0, 0);
        d.end(0);
        Due.plan(d, " ");
        int[] least = {2, 2, 0, 0, 0, 0, 0};
        for (int what = 0; what < 7; what++) {
            Due.due("the least " + what, d.count(what), least[what]);
        }
    }

    private static void statusOfEach() {
        Due.sentence("19: What the latest call of size, land, level, spring, plan, map was REFUSED by");
        DeltaRuns d = new DeltaRuns();
        Due.due("ahead of any", d.status(), 0);
        int[] refused = {d.size(1, 2), d.status(), d.size(2, 2), d.status(), d.land(0, 0, 2, 0, 1), d.status(),
            d.land(0, 0, 1, 0, 1), d.status(), d.land(1, 0, 0, 0, 1), d.status(), d.level(201), d.status(),
            d.level(200), d.status(), d.spring(2, 0, 0), d.status(), d.spring(0, 0, 1001), d.status(),
            d.spring(1, 1, 1), d.status(), d.feed(0, 0, 0, 0, 0), d.plan(), d.status(), d.plan(), d.status(),
            d.map(0, 2, 0, 0, 0), d.status(), d.map(31, 0, 0, 0, 0), d.status(), d.map(0, 0, 0, 0, 0), d.status()};
        int[] want = {-1, -1, 0, 0, -2, -2, 2, 0, -1, -1, -1, -1, 0, 0, -2, -2, -1, -1, 0, 0, 20, -6, -6, 0, 0,
            -2, -2, -1, -1, 1, 0};
        for (int i = 0; i < want.length; i++) {
            Due.due("answer " + i, refused[i], want[i]);
        }
        fillMaps(d);
        Due.due("no room", d.map(0, 0, 0, 0, 0), -5);
        Due.due("status of it", d.status(), -5);
        Due.due("a taken call wipes it", d.level(1), 0);
        Due.due("wiped", d.status(), 0);
    }

    private static void statusLeft() {
        Due.sentence("19: the latest call of size, land, level, spring, plan, map (no other's)");
        for (int left : new int[] {0, -1, -2, -6}) {
            DeltaRuns d = new DeltaRuns();
            d.feed(0, 0, 0, 0, 0);
            int refused = left == 0 ? d.level(3) : left == -1 ? d.level(-1) : left == -2 ? d.spring(6, 0, 0) : d.plan();
            Due.due("status", d.status(), left);
            int[] others = {refused, d.feed(0, 0, 0, 0, 0), d.end(-1), d.end(301), d.end(0), d.fault(),
                d.height(36, 0, 0, 0), d.height(0, 0, 6, 0), d.height(0, 3, 0, 0), d.flow(0, 0, 0, 0),
                d.flow(0, 1, 0, 0), d.lake(0, 31), d.lake(0, 0), d.stays(-2, 0), d.stays(-1, 1001), d.stays(0, 0),
                d.foretold(6, 0, 0, 0, 0), d.foretold(0, 0, 0, 0, 0), d.wasted(-1), d.wasted(0), d.against(36, 0),
                d.against(0, 0), d.count(7), d.count(0), d.status()};
            Due.due("status behind " + others.length + " others", d.status(), left);
            for (int i = 0; i < 16; i++) {
                d.feed(0, 0, 0, 0, 0);
            }
            Due.due("status behind a full TAPE", d.status(), left);
        }
    }

    private static void objectsApart() {
        Due.sentence("1: DeltaRuns(): a new object (whatever others were told)");
        DeltaRuns one = springAtLake();
        DeltaRuns two = new DeltaRuns();
        Due.plan(one, "year 2 cut 0 0 by 5");
        one.map(0, 0, 0, 1, 0);
        for (int year = 1; year <= 3; year++) {
            Due.due("the one's", one.height(0, year, 1, 0), 20 + 2 * year);
            Due.due("the other's", two.height(0, year, 0, 0), 51);
        }
        Due.due("the one's RULES", one.stays(-1, 0), 0);
        Due.due("the other's RULES", two.stays(-1, 0), 36);
        Due.due("the one's ACTS", one.count(4), 1);
        Due.due("the other's ACTS", two.count(4), 0);
        Due.due("the one's status", one.level(-1) + one.status(), -2);
        Due.due("the other's status", two.status(), 0);
    }

    private static void askedInAnyOrder() {
        Due.sentence("10, 11, 12: HEIGHT, FLOW, LAKE as of a YEAR (whatever was asked before)");
        String text = "year 2 dyke 1 0; year 4 open 1 0; year 5 cut 0 0 by 3; year 7 dyke 1 0; year 9 dredge 1 0 to 9";
        DeltaRuns mixed = springAtLake();
        Due.plan(mixed, text);
        for (int i = 0; i < 60; i++) {
            int year = 1 + i * 17 % 30;
            int rule = i * 13 % 36;
            DeltaRuns fresh = springAtLake();
            Due.plan(fresh, text);
            Due.due("flow in YEAR " + year, mixed.flow(rule, year, 1, 0), fresh.flow(rule, year, 1, 0));
            fresh = springAtLake();
            Due.plan(fresh, text);
            Due.due("height in YEAR " + year, mixed.height(rule, year, 0, 0), fresh.height(rule, year, 0, 0));
            fresh = springAtLake();
            Due.plan(fresh, text);
            Due.due("lakes in YEAR " + year, mixed.lake(rule, year), fresh.lake(rule, year));
        }
    }

    private static void lastCall() {
        Due.sentence("An object is used for at most 512 calls");
        DeltaRuns d = new DeltaRuns();
        d.size(12, 10);
        d.level(0);
        d.map(30, 11, 9, 50, 0);
        d.land(11, 9, 11, 9, 200);
        d.land(11, 8, 11, 8, 201);
        // Each change makes all rules run all their years again.
        for (int i = 0; i < 253; i++) {
            Due.due("spring in call " + (2 * i + 7), d.spring(i % 11, i % 9, 1000 - i), 0);
            Due.due("stays in call " + (2 * i + 8), d.stays(-1, 1000), 0);
        }
    }
}
