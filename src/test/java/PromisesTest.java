/** For each promise of the document: ordinary inputs, the edges that it names, and wrong inputs. */
public final class PromisesTest {
    private static int wrong = 0;
    private static String promise = "";

    public static void main(String[] args) {
        newObject();
        size();
        land();
        level();
        spring();
        feed();
        end();
        plan();
        planFaults();
        planLimits();
        worksOfThePlan();
        height();
        heightOfLakesAndPits();
        flow();
        lake();
        map();
        stays();
        foretold();
        wasted();
        against();
        eachRuleAlone();
        count();
        status();
        wildCalls();
        System.out.println(wrong == 0 ? "all promises hold" : wrong + " answers are not as due");
        if (wrong != 0) {
            System.exit(1);
        }
    }

    private static void due(String call, int got, int want) {
        if (got != want) {
            wrong++;
            System.out.println(promise + ": " + call + " answered " + got + ", due is " + want);
        }
    }

    private static void newObject() {
        promise = "1 a new object";
        DeltaRuns d = new DeltaRuns();
        due("W", d.count(0), 6);
        due("H", d.count(1), 6);
        due("LEVEL", d.count(2), 40);
        due("FLOW", d.count(3), 64);
        due("ACTS", d.count(4), 0);
        due("ENTRIES", d.count(5), 0);
        due("TAPE", d.count(6), 0);
        due("status", d.status(), 0);
        due("fault", d.fault(), DeltaRuns.NONE);
        for (int cell = 0; cell < 36; cell++) {
            due("height of " + cell, d.height(cell, 0, cell % 6, cell / 6), 50);
        }
        due("SPRING 0", d.flow(0, 1, 0, 0), 64);
        due("NONE", DeltaRuns.NONE, -1);
        DeltaRuns other = new DeltaRuns();
        other.level(3);
        due("another object's LEVEL", d.count(2), 40);
    }

    private static void size() {
        promise = "2 size";
        DeltaRuns d = new DeltaRuns();
        int[][] bad = {{1, 2}, {13, 2}, {2, 1}, {2, 11}, {-1, -1}, {Integer.MIN_VALUE, 5}, {5, Integer.MAX_VALUE}};
        for (int[] b : bad) {
            due("size(" + b[0] + ", " + b[1] + ")", d.size(b[0], b[1]), -1);
        }
        due("W stays", d.count(0), 6);
        due("least", d.size(2, 2), 0);
        due("no third column", d.height(0, 0, 2, 0), -1);
        due("no third row", d.height(0, 0, 0, 2), -1);
        due("greatest", d.size(12, 10), 0);
        due("far corner", d.height(0, 0, 11, 9), 50);
        d.land(0, 0, 11, 9, 7);
        d.spring(3, 3, 20);
        d.level(60);
        d.map(0, 0, 0, 7, 0);
        plan(d, "year 3 dyke 1 1");
        due("size(5, 4)", d.size(5, 4), 0);
        due("all are 50", d.height(0, 0, 4, 3), 50);
        due("SPRING is 0 again", d.flow(0, 1, 0, 0), 20);
        due("FLOW stays", d.count(3), 20);
        due("LEVEL stays", d.count(2), 60);
        due("the PLAN stays", d.count(4), 1);
        due("ENTRIES are none", d.count(5), 0);
        d.map(0, 0, 0, 50, 0);
        due("refused", d.size(5, 11), -1);
        due("refused: ENTRIES stay", d.count(5), 1);
    }

    private static void land() {
        promise = "3 land";
        DeltaRuns d = new DeltaRuns();
        d.size(5, 4);
        due("a part", d.land(1, 1, 3, 2, 90), 6);
        due("inside", d.height(5, 0, 3, 2), 90);
        due("right of it", d.height(5, 0, 4, 2), 50);
        due("above it", d.height(5, 0, 3, 3), 50);
        due("below it", d.height(5, 0, 1, 0), 50);
        due("one cell", d.land(4, 3, 4, 3, 0), 1);
        due("all", d.land(0, 0, 4, 3, 200), 20);
        due("HEIGHT above", d.land(0, 0, 0, 0, 201), -1);
        due("HEIGHT below", d.land(0, 0, 0, 0, -1), -1);
        due("order of x", d.land(2, 0, 1, 0, 5), -1);
        due("order of y", d.land(0, 2, 0, 1, 5), -1);
        due("order ahead of the cell", d.land(9, 0, 8, 0, 5), -1);
        due("HEIGHT ahead of the cell", d.land(0, 0, 9, 9, 201), -1);
        due("left of it", d.land(-1, 0, 0, 0, 5), -2);
        due("under it", d.land(0, -1, 0, 0, 5), -2);
        due("beyond x", d.land(0, 0, 5, 0, 5), -2);
        due("beyond y", d.land(0, 0, 0, 4, 5), -2);
        due("beyond all", d.land(Integer.MIN_VALUE, 0, Integer.MAX_VALUE, 0, 5), -2);
        due("nothing was laid", d.height(0, 0, 0, 0), 200);
        d.map(0, 0, 0, 200, 1);
        due("ENTRIES stay", d.land(0, 0, 0, 0, 10) + d.count(5), 2);
        due("and are beside the new land", d.stays(-1, 1), 0);
    }

    private static void level() {
        promise = "4 level";
        DeltaRuns d = new DeltaRuns();
        due("lake at first", d.lake(0, 0), 0);
        due("50 is not lower than 50", d.level(50) + d.lake(0, 0), 0);
        due("51", d.level(51), 0);
        due("all are lake", d.lake(0, 0), 36);
        due("above", d.level(201), -1);
        due("below", d.level(-1), -1);
        due("stays", d.count(2), 51);
        due("least", d.level(0), 0);
        due("none is lake", d.lake(0, 0), 0);
        due("run under it", d.height(0, 1, 0, 0), 51);
        due("greatest", d.level(200), 0);
        due("run anew", d.height(0, 1, 0, 0), 54);
        due("is told", d.count(2), 200);
    }

    private static void spring() {
        promise = "5 spring";
        DeltaRuns d = new DeltaRuns();
        d.size(4, 3);
        due("spring", d.spring(3, 2, 1000), 0);
        due("got", d.flow(0, 1, 3, 2), 1000);
        due("not there", d.flow(0, 1, 0, 0), 0);
        due("FLOW ahead of the cell", d.spring(9, 9, 1001), -1);
        due("below 0", d.spring(0, 0, -1), -1);
        due("beyond x", d.spring(4, 0, 5), -2);
        due("beyond y", d.spring(0, 3, 5), -2);
        due("negative", d.spring(0, -1, 5), -2);
        due("stays", d.count(3), 1000);
        due("none comes", d.spring(1, 1, 0), 0);
        due("a PIT that got none", d.height(0, 30, 1, 1), 50);
    }

    private static void feed() {
        promise = "6 feed";
        DeltaRuns d = new DeltaRuns();
        for (int i = 1; i <= 15; i++) {
            due("feed " + i, d.feed(0x20202020, 0x20202020, 0x20202020, 0x20202020, 0x20202020), 20 * i);
        }
        due("no more than 300", d.feed(0, 0, 0, 0, 0), -1);
        due("it has", d.count(6), 300);
        due("281 are too many", d.end(281) + d.feed(0, 0, 0, 0, 0), 280);
        due("280 are not", d.end(280) + d.feed(0, 0, 0, 0, 0), 580);
        d.end(0);
        due("the highest byte first", d.feed(0x79656172, 0x31303230, 0, 0, 0), 20);
        due("faulty number", d.plan(), -6);
        due("its place", d.fault(), 4);
        d.feed(0x79656172, 0x31303230, 0, 0, -1);
        d.end(6);
        due("faulty end", d.plan(), -6);
        due("the end's place", d.fault(), 6);
    }

    private static void end() {
        promise = "7 end";
        DeltaRuns d = new DeltaRuns();
        due("of none", d.end(0), 0);
        due("more than none", d.end(1), -1);
        due("below 0", d.end(-1), -1);
        d.feed(0, 0, 0, 0, 0);
        due("more than it has", d.end(21), -1);
        due("all", d.end(20), 20);
        due("some", d.end(7), 7);
        due("cut off is gone", d.end(8), -1);
        due("behind the cut", d.feed(0, 0, 0, 0, 0), 27);
        due("least int", d.end(Integer.MIN_VALUE), -1);
        due("status is not end's", d.status(), 0);
    }

    /** Feeds a text, ends the tape behind it, and makes it the plan. */
    private static int plan(DeltaRuns d, String text) {
        for (int i = 0; i < text.length(); i += 20) {
            int[] five = new int[5];
            for (int k = 0; k < 20; k++) {
                char sign = i + k < text.length() ? text.charAt(i + k) : ' ';
                five[k / 4] = five[k / 4] << 8 | sign;
            }
            d.feed(five[0], five[1], five[2], five[3], five[4]);
        }
        due("end of " + text, d.end(text.length()), text.length());
        return d.plan();
    }

    private static void plan() {
        promise = "8 plan";
        DeltaRuns d = new DeltaRuns();
        due("an empty TAPE", d.plan(), 0);
        due("blanks alone", plan(d, "     "), 0);
        due("one", plan(d, "year 1 dyke 0 0"), 1);
        due("ACTS", d.count(4), 1);
        due("the TAPE is empty", d.count(6), 0);
        due("no blanks where none are needed", plan(d, "year30cut11 9by200;year1dredge0 0to0"), 2);
        due("many blanks", plan(d, "  year  1   open  0   0   ;   year 2 dyke 1 1  "), 2);
        due("noughts ahead", plan(d, "year 000000000000000000001 open 00011 0000000000009"), 1);
        due("a fault", plan(d, "year 1 open 0 0;"), -6);
        due("the TAPE is empty, too", d.count(6), 0);
        due("the PLAN stays", d.count(4), 1);
        due("no ACTS then", d.plan(), 0);
        due("none are told", d.count(4), 0);
    }

    private static void fault(String text, int place) {
        DeltaRuns d = new DeltaRuns();
        due("plan of " + text, plan(d, text), -6);
        due("fault of " + text, d.fault(), place);
        due("status of " + text, d.status(), -6);
    }

    private static void planFaults() {
        promise = "9 fault";
        DeltaRuns d = new DeltaRuns();
        due("ahead of any", d.fault(), -1);
        plan(d, "x");
        due("of the latest", d.fault(), 0);
        plan(d, "year 1 dyke 0 0");
        due("none without", d.fault(), -1);
        fault("  ;", 2);
        fault("yea 1 dyke 0 0", 0);
        fault("years 1 dyke 0 0", 0);
        fault("yearz 1 dyke 0 0", 0);
        fault("yeara 1 dyke 0 0", 0);
        fault("Year 1 dyke 0 0", 0);
        fault("year", 4);
        fault("year   ", 7);
        fault("year 0 dyke 0 0", 5);
        fault("year 31 dyke 0 0", 5);
        fault("year 99999999999999999999 dyke 0 0", 5);
        fault("year 4294967297 dyke 0 0", 5);
        fault("year -1 dyke 0 0", 5);
        fault("year x dyke 0 0", 5);
        fault("year ; dyke 0 0", 5);
        fault("year 1 2 dyke 0 0", 7);
        fault("year 1 dykes 0 0", 7);
        fault("year 1", 6);
        fault("year 1 dyke 12 0", 12);
        fault("year 1 dyke 0 10", 14);
        fault("year 1 dyke 00", 14);
        fault("year 1 dyke ,0 0", 12);
        fault("year 1 open 0 0 by 3", 16);
        fault("year 1 cut 0 0", 14);
        fault("year 1 cut 0 0 to 3", 15);
        fault("year 1 cut 0 0 by 201", 18);
        fault("year 1 cut 0 0 by", 17);
        fault("year 1 dredge 0 0 by 3", 18);
        fault("year 1 dredge 0 0 to 201", 21);
        fault("year 1 dyke 0 0;", 16);
        fault("year 1 dyke 0 0 ;  ", 19);
        fault("year 1 dyke 0 0;;", 16);
        fault("year 1 dyke 0 0 year 2 open 0 0", 16);
        fault("year 1 dyke 0 0\t", 15);
        fault("year 1 dyke 0 0" + (char) 233, 15);
        fault("year 1 dyke 0 " + (char) 0 + "0", 14);
        fault("year 1 dyke 0 0x", 15);
    }

    private static void planLimits() {
        promise = "8 plan, limits";
        String act = "year1open0 0";
        String twenty = act + (";" + act).repeat(19);
        DeltaRuns d = new DeltaRuns();
        due("20 ACTS", plan(d, twenty), 20);
        due("are told", d.count(4), 20);
        due("and run", d.height(0, 1, 0, 0), 51);
        fault(twenty + "; " + act, twenty.length() + 2);
        fault(twenty + ";", twenty.length() + 1);
        fault(twenty + "  ;x", twenty.length() + 3);
        fault(twenty + ",", twenty.length());
        String longest = " ".repeat(300 - act.length()) + act;
        due("300 bytes", plan(d, longest), 1);
        due("300 digits", plan(d, "year" + "0".repeat(288) + "1dyke0 0"), 1);
        fault("year" + "1".repeat(296), 4);
    }

    private static void worksOfThePlan() {
        promise = "8 plan, its works";
        DeltaRuns d = new DeltaRuns();
        d.spring(5, 5, 0);
        plan(d, "year 3 cut 0 0 by 20; year 3 dredge 0 0 to 40; year 2 dredge 1 0 to 40; year 2 cut 1 0 by 20");
        due("not yet", d.height(0, 2, 0, 0), 50);
        due("cut, then not higher", d.height(0, 3, 0, 0), 30);
        due("stays so", d.height(0, 30, 0, 0), 30);
        due("dredged, then cut", d.height(0, 2, 1, 0), 20);
        plan(d, "year 30 cut 0 0 by 200; year 1 dredge 1 1 to 51; year 1 cut 11 9 by 50; year 1 cut 6 0 by 9");
        due("0 at least", d.height(0, 30, 0, 0), 0);
        due("dredge never raises", d.height(0, 30, 1, 1), 50);
        due("no cell, no work", d.height(0, 1, 0, 1), 50);
        d.size(12, 10);
        due("the same ACT on a greater land", d.height(0, 1, 11, 9), 0);
        due("and another", d.height(0, 1, 6, 0), 41);

        DeltaRuns e = new DeltaRuns();
        e.size(2, 2);
        e.land(0, 0, 0, 0, 100);
        plan(e, "year 4 open 1 0; year 2 dyke 1 0; year 2 dyke 0 0; year 6 dyke 1 0; year 6 open 1 0");
        due("open at first", e.flow(0, 1, 1, 0), 64);
        due("behind the DYKE", e.flow(0, 2, 1, 0), 0);
        due("from then on", e.flow(0, 3, 1, 0), 0);
        due("a SPRING with a DYKE gives on", e.flow(0, 3, 0, 1), 64);
        due("opened", e.flow(12, 4, 1, 0), 32);
        due("in the order of the TEXT", e.flow(12, 6, 1, 0), 32);
        due("asked again, the other way", e.flow(12, 3, 1, 0), 0);
        plan(e, "year 1 dyke 1 0");
        due("the first YEAR", e.height(0, 1, 1, 0), 50);
        due("its DYKE is there when the run goes on", e.flow(12, 3, 1, 0), 0);
        plan(e, "year 1 dyke 1 0; year 1 dyke 0 1");
        due("shut in: a PIT", e.height(0, 3, 0, 0), 103);
    }

    /** A peak in the middle of a cross, walls at the corners; nothing is lake. */
    private static DeltaRuns cross(int flow) {
        DeltaRuns d = new DeltaRuns();
        d.size(3, 3);
        d.land(0, 0, 2, 2, 200);
        d.land(1, 1, 1, 1, 100);
        d.land(2, 1, 2, 1, 90);
        d.land(1, 2, 1, 2, 80);
        d.land(0, 1, 0, 1, 70);
        d.land(1, 0, 1, 0, 60);
        d.spring(1, 1, flow);
        return d;
    }

    private static void shares(String what, DeltaRuns d, int rule, int right, int up, int left, int down) {
        due(what + ", right", d.flow(rule, 1, 2, 1), right);
        due(what + ", up", d.flow(rule, 1, 1, 2), up);
        due(what + ", left", d.flow(rule, 1, 0, 1), left);
        due(what + ", down", d.flow(rule, 1, 1, 0), down);
    }

    private static void height() {
        promise = "10 height";
        DeltaRuns d = cross(16);
        due("RULE -1", d.height(-1, 0, 0, 0), -1);
        due("RULE 36", d.height(36, 0, 0, 0), -1);
        due("YEAR -1", d.height(0, -1, 0, 0), -1);
        due("YEAR 31", d.height(0, 31, 0, 0), -1);
        due("x", d.height(0, 0, 3, 0), -1);
        due("y", d.height(0, 0, 0, -1), -1);
        due("as of YEAR 0", d.height(35, 0, 1, 1), 100);
        due("16 wear", d.height(1, 1, 1, 1), 99);
        due("without WEAR", d.height(0, 1, 1, 1), 100);
        due("a PIT rises", d.height(1, 1, 1, 0), 61);
        due("year by year, with the left SIDE once both are alike", d.height(0, 30, 1, 0), 80);
        due("and that one", d.height(0, 30, 0, 1), 80);
        due("what got none stays", d.height(0, 30, 2, 1), 90);
        due("the latest first, then an earlier", d.height(0, 7, 1, 0), 67);
        d.spring(1, 1, 15);
        due("15 do not wear", d.height(1, 30, 1, 1), 100);
        due("a new SPRING is run anew", d.height(3, 1, 1, 1), 100);
        DeltaRuns full = new DeltaRuns();
        full.size(2, 2);
        full.land(0, 0, 1, 1, 200);
        due("200 at most", full.height(13, 30, 0, 0), 200);
        full.level(0);
        full.land(0, 0, 1, 1, 1);
        full.land(1, 0, 1, 0, 0);
        due("a drop of 1, SORT 2", full.flow(25, 1, 1, 0), 64);
        due("0 at least", full.height(25, 1, 0, 0), 0);
        full.land(0, 0, 1, 1, 200);
        full.land(0, 0, 0, 0, 199);
        due("up to 200", full.height(13, 30, 0, 0), 200);
    }

    private static void heightOfLakesAndPits() {
        promise = "10 height, of lakes";
        DeltaRuns d = new DeltaRuns();
        d.size(2, 2);
        d.land(0, 0, 1, 1, 10);
        d.spring(0, 0, 31);
        due("f RATE / 16, cut", d.height(0, 1, 0, 0), 11);
        due("RATE 6", d.height(10, 1, 0, 0), 21);
        due("RATE 2", d.height(2, 1, 0, 0), 13);
        due("WEAR does not count there", d.height(3, 1, 0, 0), 13);
        d.spring(0, 0, 15);
        due("a PIT of the LAKE does not rise by 1", d.height(0, 30, 0, 0), 10);
        d.spring(0, 0, 1000);
        due("not above LEVEL", d.height(0, 1, 0, 0), 40);
        d.land(0, 0, 0, 0, 39);
        due("passed on, and risen", d.height(0, 1, 0, 0), 40);
        due("all at once", d.height(0, 1, 1, 0), 40);
        due("LAKE no more, it gives on", d.height(1, 2, 0, 0), 39);
    }

    private static void flow() {
        promise = "11 flow";
        DeltaRuns d = cross(10);
        shares("SORT 0", d, 0, 0, 0, 0, 10);
        shares("SORT 0, last", d, 11, 0, 0, 0, 10);
        shares("SORT 1", d, 12, 3, 3, 2, 2);
        shares("SORT 1, last", d, 23, 3, 3, 2, 2);
        shares("SORT 2", d, 24, 1, 2, 3, 4);
        shares("SORT 2, last", d, 35, 1, 2, 3, 4);
        d.spring(1, 1, 7);
        shares("rests", d, 24, 1, 1, 2, 3);
        d.spring(1, 1, 1000);
        shares("much", d, 24, 100, 200, 300, 400);
        shares("much, SORT 1", d, 12, 250, 250, 250, 250);
        d.land(1, 2, 1, 2, 59);
        shares("the second SIDE is the lowest", d, 0, 0, 1000, 0, 0);
        plan(d, "year 1 dyke 2 1; year 1 dyke 1 2; year 1 dyke 0 1");
        shares("one SIDE alone, SORT 1", d, 12, 0, 0, 0, 1000);
        shares("one SIDE alone, SORT 2", d, 24, 0, 0, 0, 1000);
        plan(d, "");
        d.land(1, 2, 1, 2, 80);
        d.land(2, 1, 2, 1, 80);
        d.land(0, 1, 0, 1, 70);
        d.land(1, 0, 1, 0, 70);
        d.spring(1, 1, 3);
        shares("alike rests", d, 24, 1, 0, 1, 1);
        shares("of alike ones the first SIDE", d, 0, 0, 0, 3, 0);
        plan(d, "year 1 dyke 0 1");
        shares("a DYKE", d, 0, 0, 0, 0, 3);
        shares("a DYKE, SORT 1", d, 12, 1, 1, 0, 1);
        due("what the SPRING has", d.flow(0, 1, 1, 1), 3);
        due("a wall", d.flow(0, 1, 0, 0), 0);
        due("YEAR 0", d.flow(0, 0, 1, 1), -1);
        due("YEAR 31", d.flow(0, 31, 1, 1), -1);
        due("YEAR 30", d.flow(0, 30, 1, 1), 3);
        due("RULE -1", d.flow(-1, 1, 1, 1), -1);
        due("RULE 36", d.flow(36, 1, 1, 1), -1);
        due("x", d.flow(0, 1, -1, 1), -1);
        due("y", d.flow(0, 1, 1, 3), -1);
        DeltaRuns two = new DeltaRuns();
        two.size(2, 2);
        two.land(0, 0, 0, 0, 100);
        two.land(1, 1, 1, 1, 30);
        due("two ways meet", two.flow(12, 1, 1, 1), 64);
    }

    private static void lake() {
        promise = "12 lake";
        DeltaRuns d = new DeltaRuns();
        d.size(3, 2);
        d.land(0, 0, 0, 0, 60);
        d.land(1, 0, 2, 0, 30);
        due("as of YEAR 0", d.lake(35, 0), 2);
        due("under RULE 0", d.lake(0, 2), 2);
        due("filled", d.lake(0, 6), 0);
        due("YEAR 30", d.lake(0, 30), 0);
        due("RULE -1", d.lake(-1, 0), -1);
        due("RULE 36", d.lake(36, 0), -1);
        due("YEAR -1", d.lake(0, -1), -1);
        due("YEAR 31", d.lake(0, 31), -1);
        d.size(12, 10);
        d.level(200);
        due("all", d.lake(0, 0), 120);
    }

    private static void map() {
        promise = "13 map";
        DeltaRuns d = new DeltaRuns();
        int[][] bad = {{-1, 0, 0, 0, 0}, {31, 0, 0, 0, 0}, {0, 0, 0, -1, 0}, {0, 0, 0, 201, 0}, {0, 0, 0, 0, -1},
            {0, 0, 0, 0, 1001}, {31, 9, 9, 0, 0}};
        for (int[] b : bad) {
            due("a number that can't be", d.map(b[0], b[1], b[2], b[3], b[4]), -1);
        }
        due("x", d.map(0, 6, 0, 0, 0), -2);
        due("y", d.map(0, 0, -1, 0, 0), -2);
        due("none yet", d.count(5), 0);
        for (int i = 1; i <= 200; i++) {
            due("entry " + i, d.map(i % 31, i % 6, 5, i, i * 5), i);
        }
        due("no room", d.map(0, 0, 0, 0, 0), -5);
        due("no cell ahead of it", d.map(0, 6, 0, 0, 0), -2);
        due("a number ahead of it", d.map(0, 0, 0, 0, 1001), -1);
        due("200 of them", d.count(5), 200);
        d.size(6, 6);
        due("room again", d.map(30, 5, 5, 200, 1000), 1);
    }

    /** Of all rules, entry 0 leaves RATE 1, entry 1 WEAR 1 of them, entry 2 none. */
    private static DeltaRuns mapped() {
        DeltaRuns d = new DeltaRuns();
        d.size(3, 2);
        d.land(0, 0, 2, 1, 60);
        d.land(0, 0, 0, 0, 55);
        d.land(1, 0, 1, 0, 30);
        d.spring(0, 0, 16);
        d.map(1, 1, 0, 31, 10);
        d.map(2, 0, 0, 53, 20);
        d.map(0, 2, 1, 61, 30);
        return d;
    }

    private static void stays() {
        promise = "14 stays";
        DeltaRuns d = mapped();
        due("none known", d.stays(-1, 9), 36);
        due("known on its day", d.stays(-1, 10), 6);
        int[] six = {0, 1, 12, 13, 24, 25};
        for (int i = 0; i < 6; i++) {
            due("of six the " + i, d.stays(i, 19), six[i]);
        }
        due("no seventh", d.stays(6, 19), -1);
        due("of all the last", d.stays(35, 9), 35);
        due("two known", d.stays(-1, 29), 3);
        due("WEAR 1", d.stays(2, 29), 25);
        due("three known", d.stays(-1, 30), 0);
        due("of none", d.stays(0, 1000), -1);
        due("day -1", d.stays(-1, -1), -1);
        due("day 1001", d.stays(-1, 1001), -1);
        due("i -2", d.stays(-2, 0), -1);
        due("i 36", d.stays(36, 0), -1);
        due("greatest int", d.stays(Integer.MAX_VALUE, 0), -1);
    }

    private static void foretold() {
        promise = "15 foretold";
        DeltaRuns d = mapped();
        due("least of all", d.foretold(1, 0, 1, 0, 0), 31);
        due("greatest of all", d.foretold(1, 0, 1, 0, 1), 36);
        due("GROWS", d.foretold(1, 0, 1, 0, 2), 1);
        due("neither: some wear", d.foretold(0, 0, 1, 0, 2), 0);
        due("least of some", d.foretold(0, 0, 3, 10, 0), 52);
        due("greatest of some", d.foretold(0, 0, 3, 10, 1), 55);
        due("SINKS", d.foretold(0, 0, 1, 20, 2), -1);
        due("as of YEAR 0", d.foretold(0, 0, 0, 20, 2), 0);
        due("stays as it is", d.foretold(2, 1, 30, 20, 2), 0);
        d.land(2, 1, 2, 1, 200);
        due("200 at least", d.foretold(2, 1, 30, 20, 0), 200);
        d.land(2, 1, 2, 1, 0);
        due("0 at most", d.foretold(2, 1, 1, 0, 1), 0);
        d.land(2, 1, 2, 1, 60);
        due("no RULE", d.foretold(0, 0, 0, 30, 0), -100);
        due("no RULE, 2", d.foretold(0, 0, 0, 30, 2), -100);
        int[][] bad = {{3, 0, 0, 0, 0}, {0, 2, 0, 0, 0}, {-1, 0, 0, 0, 0}, {0, 0, -1, 0, 0}, {0, 0, 31, 0, 0},
            {0, 0, 0, -1, 0}, {0, 0, 0, 1001, 0}, {0, 0, 0, 0, -1}, {0, 0, 0, 0, 3}};
        for (int[] b : bad) {
            due("without", d.foretold(b[0], b[1], b[2], b[3], b[4]), -100);
        }
    }

    private static void wasted() {
        promise = "16 wasted";
        DeltaRuns d = mapped();
        due("some stay", d.wasted(29), -1);
        due("none known", d.wasted(0), -1);
        due("the one", d.wasted(30), 2);
        d.map(1, 1, 0, 36, 40);
        due("two are too many", d.wasted(40), -1);
        due("not known yet", d.wasted(39), 2);
        due("day -1", d.wasted(-1), -1);
        due("day 1001", d.wasted(1001), -1);
        DeltaRuns e = new DeltaRuns();
        e.map(0, 0, 0, 50, 900);
        e.map(0, 1, 0, 51, 7);
        due("none stays but for it", e.wasted(7), 1);
        e.map(0, 1, 0, 51, 7);
        due("said twice", e.wasted(1000), -1);
        DeltaRuns f = mapped();
        f.size(3, 2);
        f.land(0, 0, 0, 0, 55);
        f.spring(0, 0, 16);
        f.map(1, 0, 0, 55, 0);
        f.map(1, 0, 0, 54, 0);
        due("of two that are against each other the first", f.wasted(0), 0);
    }

    private static void against() {
        promise = "17 against";
        DeltaRuns d = mapped();
        due("none known", d.against(2, 9), -1);
        due("RATE 2", d.against(2, 10), 0);
        due("RATE 1", d.against(0, 10), -1);
        due("without WEAR", d.against(0, 30), 1);
        due("with it", d.against(25, 30), 2);
        due("RULE -1", d.against(-1, 30), -1);
        due("RULE 36", d.against(36, 30), -1);
        due("day -1", d.against(2, -1), -1);
        due("day 1001", d.against(2, 1001), -1);
        due("day 1000", d.against(2, 1000), 0);
    }

    /** Below a peak four lakes of their own depths: what a year lays there tells the rule. */
    private static void eachRuleAlone() {
        for (int rule = 0; rule < 36; rule++) {
            promise = "14 to 17, RULE " + rule + " alone";
            DeltaRuns d = cross(64);
            d.land(1, 1, 1, 1, 55);
            d.land(2, 1, 2, 1, 30);
            d.land(1, 2, 1, 2, 20);
            d.land(0, 1, 0, 1, 10);
            d.land(1, 0, 1, 0, 5);
            int[] x = {1, 2, 1, 0, 1};
            int[] y = {1, 1, 2, 1, 0};
            for (int i = 0; i < 5; i++) {
                d.map(1, x[i], y[i], d.height(rule, 1, x[i], y[i]), i);
            }
            due("how many", d.stays(-1, 4), 1);
            due("which", d.stays(0, 4), rule);
            due("against", d.against(rule, 4), -1);
            due("the other WEAR", d.against(rule ^ 1, 4), 0);
            due("least", d.foretold(1, 0, 5, 4, 0), d.height(rule, 5, 1, 0));
            due("greatest", d.foretold(1, 0, 5, 4, 1), d.height(rule, 5, 1, 0));
            d.map(0, 0, 0, 1, 5);
            due("none", d.stays(-1, 5), 0);
            due("wasted", d.wasted(5), 5);
        }
    }

    private static void count() {
        promise = "18 count";
        DeltaRuns d = mapped();
        d.size(7, 8);
        d.level(9);
        d.spring(0, 0, 10);
        plan(d, "year 1 dyke 0 0; year 1 dyke 0 0");
        d.map(0, 0, 0, 0, 0);
        d.map(0, 0, 0, 0, 0);
        d.map(0, 0, 0, 0, 0);
        d.feed(0, 0, 0, 0, 0);
        int[] counts = {7, 8, 9, 10, 2, 3, 20};
        for (int what = 0; what < 7; what++) {
            due("count(" + what + ")", d.count(what), counts[what]);
        }
        due("count(-1)", d.count(-1), -1);
        due("count(7)", d.count(7), -1);
        due("count(least)", d.count(Integer.MIN_VALUE), -1);
    }

    private static void status() {
        promise = "19 status";
        DeltaRuns d = new DeltaRuns();
        due("ahead of any", d.status(), 0);
        due("size", 10 * d.size(1, 1) + d.status(), -11);
        due("size taken", d.size(2, 2) + d.status(), 0);
        due("land", 10 * d.land(0, 0, 2, 0, 0) + d.status(), -22);
        due("land taken", 10 * d.land(0, 0, 0, 0, 0) + d.status(), 10);
        due("level", 10 * d.level(-1) + d.status(), -11);
        due("level taken", d.level(0) + d.status(), 0);
        due("spring", 10 * d.spring(2, 2, 0) + d.status(), -22);
        d.height(0, 0, 0, 0);
        d.height(99, 0, 0, 0);
        d.feed(0, 0, 0, 0, 0);
        d.end(99);
        d.stays(99, 99);
        d.foretold(99, 0, 0, 0, 0);
        due("others leave it", d.status(), -2);
        due("spring taken", d.spring(1, 1, 0) + d.status(), 0);
        due("plan", 10 * d.plan() + d.status(), -66);
        due("plan taken", d.plan() + d.status(), 0);
        due("map", 10 * d.map(99, 0, 0, 0, 0) + d.status(), -11);
        due("map taken", 10 * d.map(0, 0, 0, 0, 0) + d.status(), 10);
        for (int i = 0; i < 200; i++) {
            d.map(0, 0, 0, 0, 0);
        }
        due("no room", d.status(), -5);
    }

    private static void wildCalls() {
        promise = "no call throws";
        int[] wild = {Integer.MIN_VALUE, -101, -2, -1, 0, 1, 2, 5, 12, 30, 35, 36, 200, 301, 1000, Integer.MAX_VALUE};
        java.util.Random random = new java.util.Random(7);
        for (int run = 0; run < 200; run++) {
            DeltaRuns d = new DeltaRuns();
            for (int i = 0; i < 500; i++) {
                int[] a = new int[6];
                for (int k = 0; k < 6; k++) {
                    a[k] = wild[random.nextInt(wild.length)];
                }
                wildCall(d, random.nextInt(18), a);
            }
        }
    }

    private static void wildCall(DeltaRuns d, int which, int[] a) {
        try {
            switch (which) {
                case 0 -> d.size(a[0], a[1]);
                case 1 -> d.land(a[0], a[1], a[2], a[3], a[4]);
                case 2 -> d.level(a[0]);
                case 3 -> d.spring(a[0], a[1], a[2]);
                case 4 -> d.feed(a[0], a[1], a[2], a[3], a[4]);
                case 5 -> d.end(a[0]);
                case 6 -> d.plan();
                case 7 -> d.fault();
                case 8 -> d.height(a[0], a[1], a[2], a[3]);
                case 9 -> d.flow(a[0], a[1], a[2], a[3]);
                case 10 -> d.lake(a[0], a[1]);
                case 11 -> d.map(a[0], a[1], a[2], a[3], a[4]);
                case 12 -> d.stays(a[0], a[1]);
                case 13 -> d.foretold(a[0], a[1], a[2], a[3], a[4]);
                case 14 -> d.wasted(a[0]);
                case 15 -> d.against(a[0], a[1]);
                case 16 -> d.count(a[0]);
                default -> d.status();
            }
        } catch (RuntimeException thrown) {
            wrong++;
            System.out.println(promise + ": call " + which + " threw " + thrown);
        }
    }
}
