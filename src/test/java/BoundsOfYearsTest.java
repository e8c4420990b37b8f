/**
 * Terms II, what a YEAR does: at the land's edges, at the lake's level, in a pit, at height 0 and at 200;
 * each sentence with the last value on either side of its bound.
 */
public final class BoundsOfYearsTest {
    private static final int[] RIGHT_UP_LEFT_DOWN_X = {2, 1, 0, 1};
    private static final int[] RIGHT_UP_LEFT_DOWN_Y = {1, 2, 1, 0};

    public static void main(String[] args) {
        sidesOnly();
        sortsOfRules();
        ratesOfRules();
        wearsOfRules();
        fromYearOneOn();
        higherFirst();
        ofWhatBeginsToRun();
        lowerSidesOnly();
        dykedSides();
        lowestSide();
        evenShares();
        sharesByDrops();
        sharesByDropsByHand();
        pits();
        pitsAt200And0();
        springWithADyke();
        lakeRises();
        lakeNotAboveLevel();
        lakeAtTheBoundsOfLevel();
        lakePassesOn();
        wearAtSixteen();
        wearAtTheLevel();
        wearToZero();
        allAtOnce();
        Due.end();
    }

    private static void sidesOnly() {
        Due.sentence("I: SIDES of a CELL: right (x + 1), up (y + 1), left, down (and no others, across no edge)");
        int[][] sizes = {{2, 2}, {3, 3}, {12, 2}, {2, 10}, {5, 4}, {12, 10}};
        for (int[] size : sizes) {
            for (int from = 0; from < size[0] * size[1]; from++) {
                for (int to = 0; to < size[0] * size[1]; to++) {
                    if (from != to) {
                        fromTo(size[0], size[1], from, to);
                    }
                }
            }
        }
    }

    private static void fromTo(int w, int h, int from, int to) {
        DeltaRuns d = new DeltaRuns();
        d.size(w, h);
        d.level(0);
        d.land(to % w, to / w, to % w, to / w, 49);
        d.spring(from % w, from / w, 9);
        boolean side = Math.abs(from % w - to % w) + Math.abs(from / w - to / w) == 1;
        for (int rule = 0; rule < 36; rule += 12) {
            Due.due("flow from " + from + " to " + to + " on " + w + ", " + h, d.flow(rule, 1, to % w, to / w), side ? 9 : 0);
        }
        Due.due("height of " + from, d.height(0, 1, from % w, from / w), side ? 50 : 51);
    }

    /** A peak of 100 with a spring in the middle of four sides, walls at the corners, no lake. */
    private static DeltaRuns peak(int flow, int right, int up, int left, int down) {
        DeltaRuns d = Due.flat(3, 3, 200);
        Due.put(d, 1, 1, 100);
        Due.put(d, 2, 1, right);
        Due.put(d, 1, 2, up);
        Due.put(d, 0, 1, left);
        Due.put(d, 1, 0, down);
        d.spring(1, 1, flow);
        return d;
    }

    private static void shares(DeltaRuns d, int rule, int year, int... want) {
        String[] names = {"right", "up", "left", "down"};
        for (int side = 0; side < 4; side++) {
            int got = d.flow(rule, year, RIGHT_UP_LEFT_DOWN_X[side], RIGHT_UP_LEFT_DOWN_Y[side]);
            Due.due("flow to the " + names[side] + " under " + rule, got, want[side]);
        }
    }

    private static void sortsOfRules() {
        Due.sentence("II: a SORT r / 12 (0 .. 2)");
        for (int rule = 0; rule < 36; rule++) {
            DeltaRuns d = peak(10, 90, 80, 70, 60);
            if (rule <= 11) {
                shares(d, rule, 1, 0, 0, 0, 10);
            } else if (rule <= 23) {
                shares(d, rule, 1, 3, 3, 2, 2);
            } else {
                shares(d, rule, 1, 1, 2, 3, 4);
            }
        }
    }

    private static void ratesOfRules() {
        Due.sentence("II: a RATE: 1 and the rest of r / 2 by 6 (1 .. 6)");
        int[] rates = {1, 1, 2, 2, 3, 3, 4, 4, 5, 5, 6, 6};
        DeltaRuns d = Due.flat(2, 2, 10);
        d.level(200);
        d.spring(0, 0, 16);
        for (int rule = 0; rule < 36; rule++) {
            Due.due("a LAKE's CELL under " + rule, d.height(rule, 1, 0, 0), 10 + rates[rule % 12]);
        }
    }

    private static void wearsOfRules() {
        Due.sentence("II: a WEAR: the rest of r by 2 (0, 1)");
        DeltaRuns d = Due.flat(2, 2, 10);
        Due.put(d, 1, 0, 5);
        d.spring(0, 0, 16);
        for (int rule = 0; rule < 36; rule++) {
            Due.due("a CELL that passes 16 on under " + rule, d.height(rule, 1, 0, 0), rule % 2 == 0 ? 10 : 9);
        }
    }

    private static void fromYearOneOn() {
        Due.sentence("II: A YEAR n (from 1 on): first what the PLAN has for it");
        DeltaRuns d = Due.flat(2, 2, 50);
        d.spring(0, 0, 1);
        Due.plan(d, "year 1 cut 1 1 by 7; year 30 cut 1 1 by 7");
        for (int rule = 0; rule < 36; rule += 7) {
            Due.due("as of YEAR 0", d.height(rule, 0, 0, 0), 50);
            Due.due("as of YEAR 1", d.height(rule, 1, 0, 0), 51);
            Due.due("no ACT in YEAR 0", d.height(rule, 0, 1, 1), 50);
            Due.due("the first YEAR's ACT", d.height(rule, 1, 1, 1), 43);
        }
        Due.due("of RULE 0 as of YEAR 29", d.height(0, 29, 1, 1) - d.height(0, 30, 1, 1) >= 6 ? 1 : 0, 1);
        Due.due("no flow in YEAR 0", d.flow(0, 0, 0, 0), -1);
        Due.due("flow in YEAR 30", d.flow(0, 30, 0, 0), 1);
        Due.plan(d, "year 1 cut 1 0 by 1");
        Due.due("the water runs behind the ACT", d.flow(0, 1, 1, 0), 1);
    }

    private static void higherFirst() {
        Due.sentence("II: CELL by CELL, the higher first");
        // Whichever way a slope goes, the water comes down all of it in one year.
        int last = 11;
        DeltaRuns d = Due.flat(12, 2, 200);
        for (int x = 0; x <= last; x++) {
            Due.put(d, x, 0, 100 + x);
        }
        d.spring(last, 0, 20);
        for (int x = 0; x <= last; x++) {
            Due.due("towards lower numbers", d.flow(1, 1, x, 0), 20);
            Due.put(d, x, 0, 150 - x);
        }
        d.spring(0, 0, 20);
        for (int x = 0; x <= last; x++) {
            Due.due("towards higher numbers", d.flow(1, 1, x, 0), 20);
        }
        // 100 gives to 90 and 60; 90 to 80, and 80 to 60, which must wait for it.
        DeltaRuns round = Due.flat(2, 3, 200);
        Due.put(round, 0, 1, 100);
        Due.put(round, 1, 1, 90);
        Due.put(round, 0, 0, 60);
        Due.put(round, 1, 0, 80);
        round.spring(0, 1, 9);
        Due.due("half of it", round.flow(12, 1, 1, 1), 5);
        Due.due("and on", round.flow(12, 1, 1, 0), 5);
        Due.due("together again", round.flow(12, 1, 0, 0), 9);
        DeltaRuns on = Due.flat(3, 2, 200);
        Due.put(on, 2, 0, 100);
        Due.put(on, 2, 1, 90);
        Due.put(on, 1, 1, 80);
        Due.put(on, 1, 0, 70);
        Due.put(on, 0, 0, 60);
        on.spring(2, 0, 9);
        Due.due("together, and on in the same YEAR", on.flow(12, 1, 0, 0), 9);
    }

    private static void ofWhatBeginsToRun() {
        Due.sentence("II: by HEIGHTS as the YEAR's water begins to run");
        DeltaRuns d = Due.flat(2, 2, 50);
        d.spring(0, 0, 1);
        Due.plan(d, "year 2 cut 1 0 by 10; year 3 cut 0 0 by 20");
        Due.due("YEAR 1: a PIT", d.height(0, 1, 0, 0), 51);
        Due.due("YEAR 2: behind the cut", d.flow(0, 2, 1, 0), 1);
        Due.due("YEAR 2: not to the one that was the first", d.flow(0, 2, 0, 1), 0);
        Due.due("YEAR 3: a PIT again", d.flow(0, 3, 1, 0), 0);
        Due.due("YEAR 3: it rises from what was cut", d.height(0, 3, 0, 0), 32);
        DeltaRuns lake = Due.flat(2, 2, 50);
        lake.level(40);
        lake.spring(0, 0, 16);
        Due.plan(lake, "year 1 cut 0 0 by 10; year 2 cut 0 0 by 2");
        Due.due("at LEVEL, so a PIT", lake.height(10, 1, 0, 0), 41);
        Due.due("cut below LEVEL, so a LAKE", lake.height(10, 2, 0, 0), 40);
        Due.due("by RATE 1", lake.height(0, 2, 0, 0), 40);
        Due.plan(lake, "year 1 cut 0 0 by 12");
        Due.due("LAKE in the YEAR of the cut, RATE 1", lake.height(0, 1, 0, 0), 39);
        Due.due("LAKE in the YEAR of the cut, RATE 2", lake.height(2, 1, 0, 0), 40);
    }

    private static void lowerSidesOnly() {
        Due.sentence("II: to SIDES that are lower than it");
        for (int rule = 0; rule < 36; rule += 12) {
            for (int side = 0; side < 4; side++) {
                for (int height = 98; height <= 102; height++) {
                    DeltaRuns d = peak(8, 200, 200, 200, 200);
                    int x = RIGHT_UP_LEFT_DOWN_X[side];
                    int y = RIGHT_UP_LEFT_DOWN_Y[side];
                    Due.put(d, x, y, height);
                    Due.due("flow to " + height, d.flow(rule, 1, x, y), height < 100 ? 8 : 0);
                    Due.due("the peak beside " + height, d.height(rule, 1, 1, 1), height < 100 ? 100 : 101);
                }
            }
        }
    }

    private static void dykedSides() {
        Due.sentence("II: and have no DYKE");
        String[] dykes = {"year 1 dyke 2 1", "year 1 dyke 1 2", "year 1 dyke 0 1", "year 1 dyke 1 0"};
        for (int shut = 0; shut < 16; shut++) {
            StringBuilder text = new StringBuilder();
            int open = 0;
            for (int side = 0; side < 4; side++) {
                if ((shut >> side & 1) != 0) {
                    text.append(text.length() == 0 ? "" : ";").append(dykes[side]);
                } else {
                    open++;
                }
            }
            DeltaRuns d = peak(12, 90, 90, 90, 90);
            Due.plan(d, text.toString());
            int[] even = new int[4];
            int[] first = new int[4];
            boolean given = false;
            for (int side = 0; side < 4; side++) {
                boolean free = (shut >> side & 1) == 0;
                even[side] = free ? 12 / open : 0;
                first[side] = free && !given ? 12 : 0;
                given |= free;
            }
            shares(d, 0, 1, first);
            shares(d, 12, 1, even);
            shares(d, 24, 1, even);
            Due.due("a PIT, if all are shut", d.height(0, 1, 1, 1), open == 0 ? 101 : 100);
        }
    }

    private static void lowestSide() {
        Due.sentence("II: SORT 0: all to the lowest of them, of alike ones the first SIDE");
        for (int low = 1; low < 16; low++) {
            int[] heights = new int[4];
            int[] want = new int[4];
            int first = Integer.numberOfTrailingZeros(low);
            for (int side = 0; side < 4; side++) {
                heights[side] = (low >> side & 1) != 0 ? 98 : 99;
                want[side] = side == first ? 1000 : 0;
            }
            DeltaRuns d = peak(1000, heights[0], heights[1], heights[2], heights[3]);
            shares(d, 0, 1, want);
            shares(d, 11, 1, want);
        }
    }

    private static void evenShares() {
        Due.sentence("II: SORT 1: to each the same, cut, of what is left one each in the order of SIDES");
        int[] flows = {0, 1, 2, 3, 4, 5, 6, 7, 8, 9, 11, 998, 999, 1000};
        for (int open = 1; open < 16; open++) {
            DeltaRuns d = peak(0, side(open, 0), side(open, 1), side(open, 2), side(open, 3));
            int sides = Integer.bitCount(open);
            for (int flow : flows) {
                d.spring(1, 1, flow);
                int[] want = new int[4];
                int left = flow - flow / sides * sides;
                for (int side = 0; side < 4; side++) {
                    if ((open >> side & 1) != 0) {
                        want[side] = flow / sides + (left > 0 ? 1 : 0);
                        left--;
                    }
                }
                shares(d, 12, 1, want);
            }
        }
    }

    /** Each lower side has another height: SORT 1 must not look at it. */
    private static int side(int open, int side) {
        return (open >> side & 1) != 0 ? 99 - 13 * side : 100 + side;
    }

    private static void sharesByDropsByHand() {
        Due.sentence("II: SORT 2: of what is left one each those with the greatest rests, of alike ones the first SIDE");
        // Flow, four drops, four shares that were reckoned by hand.
        int[][] rows = {
            {0, 1, 2, 3, 4, 0, 0, 0, 0},
            {1, 1, 1, 1, 1, 1, 0, 0, 0},
            {2, 1, 1, 1, 1, 1, 1, 0, 0},
            {3, 1, 1, 1, 1, 1, 1, 1, 0},
            {5, 1, 1, 1, 1, 2, 1, 1, 1},
            {1, 1, 2, 3, 4, 0, 0, 0, 1},
            {2, 1, 2, 3, 4, 0, 0, 1, 1},
            {3, 1, 2, 3, 4, 0, 1, 1, 1},
            {4, 1, 2, 3, 4, 0, 1, 1, 2},
            {5, 1, 2, 3, 4, 1, 1, 1, 2},
            {7, 1, 2, 3, 4, 1, 1, 2, 3},
            {1, 4, 3, 2, 1, 1, 0, 0, 0},
            {5, 4, 3, 2, 1, 2, 2, 1, 0},
            {1, 2, 2, 3, 3, 0, 0, 1, 0},
            {1000, 1, 1, 1, 100, 10, 10, 9, 971},
            {1000, 100, 1, 1, 1, 971, 10, 10, 9},
            {999, 100, 100, 100, 1, 332, 332, 332, 3},
        };
        for (int[] row : rows) {
            DeltaRuns d = peak(row[0], 100 - row[1], 100 - row[2], 100 - row[3], 100 - row[4]);
            shares(d, 24, 1, row[5], row[6], row[7], row[8]);
        }
        DeltaRuns high = Due.flat(2, 2, 200);
        Due.put(high, 1, 0, 0);
        Due.put(high, 0, 1, 199);
        high.spring(0, 0, 1000);
        Due.due("a drop of 200 of 201", high.flow(24, 1, 1, 0), 995);
        Due.due("a drop of 1 of 201", high.flow(24, 1, 0, 1), 5);
        Due.put(high, 0, 1, 0);
        Due.due("two drops of 200", high.flow(24, 1, 1, 0), 500);
    }

    private static void sharesByDrops() {
        Due.sentence("II: SORT 2: to each what came times its drop / all drops, cut");
        int[] drops = {0, 1, 2, 5, 100};
        for (int mix = 1; mix < 625; mix++) {
            int[] four = {drops[mix % 5], drops[mix / 5 % 5], drops[mix / 25 % 5], drops[mix / 125]};
            DeltaRuns d = peak(0, 100 - four[0], 100 - four[1], 100 - four[2], 100 - four[3]);
            for (int flow : new int[] {1, 2, 3, 17, 1000}) {
                d.spring(1, 1, flow);
                shares(d, 24, 1, byDrops(flow, four));
            }
        }
    }

    /** One is given at a time to whoever has the greatest rest and none of those that are left yet. */
    private static int[] byDrops(int flow, int[] drops) {
        int all = drops[0] + drops[1] + drops[2] + drops[3];
        int[] got = new int[4];
        int left = flow;
        for (int side = 0; side < 4; side++) {
            got[side] = flow * drops[side] / all;
            left -= got[side];
        }
        for (int rest = all - 1; rest > 0 && left > 0; rest--) {
            for (int side = 0; side < 4 && left > 0; side++) {
                if (flow * drops[side] % all == rest) {
                    got[side]++;
                    left--;
                }
            }
        }
        return got;
    }

    private static void pits() {
        Due.sentence("II: Without such a SIDE all ends there (a PIT)");
        for (int rule = 0; rule < 36; rule++) {
            DeltaRuns d = peak(1000, 100, 101, 200, 100);
            shares(d, rule, 1, 0, 0, 0, 0);
            Due.due("it has all", d.flow(rule, 1, 1, 1), 1000);
            Due.due("and rises by 1, not by what came", d.height(rule, 1, 1, 1), 101);
        }
        Due.sentence("II: a PIT that is none of the LAKE and got any rises by 1");
        for (int flow = 0; flow <= 17; flow++) {
            DeltaRuns d = peak(flow, 100, 100, 100, 100);
            Due.due("a PIT that got " + flow, d.height(35, 1, 1, 1), flow == 0 ? 100 : 101);
            Due.due("a SIDE of it", d.height(35, 1, 1, 2), 100);
        }
        DeltaRuns d = Due.flat(2, 2, 50);
        d.spring(0, 0, 64);
        int[] yearOfPit = {51, 51, 51, 52, 52, 52};
        int[] aside = {50, 51, 51, 51, 51, 52};
        for (int year = 1; year <= 6; year++) {
            Due.due("the SPRING behind YEAR " + year, d.height(0, year, 0, 0), yearOfPit[year - 1]);
            Due.due("its right behind YEAR " + year, d.height(0, year, 1, 0), aside[year - 1]);
        }
    }

    private static void pitsAt200And0() {
        Due.sentence("II: rises by 1 (200 at most)");
        for (int height = 197; height <= 200; height++) {
            DeltaRuns d = Due.flat(2, 2, 200);
            Due.put(d, 0, 0, height);
            d.spring(0, 0, 1);
            for (int year = 0; year <= 5; year++) {
                Due.due("from " + height + " in " + year, d.height(0, year, 0, 0), Math.min(200, height + year));
            }
            Due.due("in the last YEAR", d.height(35, 30, 0, 0), 200);
            Due.due("and none flows over", d.flow(0, 30, 1, 0), 0);
        }
        DeltaRuns low = Due.flat(2, 2, 0);
        low.spring(0, 0, 1);
        Due.due("a PIT of HEIGHT 0", low.height(1, 1, 0, 0), 1);
        Due.due("LEVEL 0 makes no LAKE", low.lake(1, 1), 0);
    }

    private static void springWithADyke() {
        Due.sentence("II: What the SPRING has is FLOW; it may have a DYKE");
        for (int rule = 0; rule < 36; rule += 12) {
            DeltaRuns d = peak(30, 90, 200, 200, 200);
            Due.plan(d, "year 1 dyke 1 1");
            Due.due("it has", d.flow(rule, 1, 1, 1), 30);
            shares(d, rule, 1, 30, 0, 0, 0);
            Due.due("it wears", d.height(rule + 1, 1, 1, 1), 99);
            Due.plan(d, "year 1 dyke 1 1; year 1 dyke 2 1");
            Due.due("it has", d.flow(rule, 1, 1, 1), 30);
            shares(d, rule, 1, 0, 0, 0, 0);
            Due.due("a PIT", d.height(rule + 1, 1, 1, 1), 101);
            d.spring(1, 1, 0);
            Due.due("it has none", d.flow(rule, 1, 1, 1), 0);
            Due.due("a dry one", d.height(rule + 1, 1, 1, 1), 100);
        }
        // A DYKE keeps out what comes, not what goes.
        DeltaRuns d = Due.flat(3, 2, 200);
        Due.put(d, 0, 0, 100);
        Due.put(d, 1, 0, 90);
        Due.put(d, 2, 0, 80);
        d.spring(1, 0, 16);
        Due.plan(d, "year 1 dyke 1 0");
        Due.due("out of it", d.flow(0, 1, 2, 0), 16);
        d.spring(0, 0, 16);
        Due.due("none into it", d.flow(0, 1, 1, 0), 0);
    }

    private static void lakeRises() {
        Due.sentence("II: a CELL of the LAKE that got f of FLOW rises by f RATE / 16, cut");
        DeltaRuns d = Due.flat(2, 2, 0);
        d.level(200);
        for (int flow = 0; flow <= 33; flow++) {
            d.spring(1, 1, flow);
            for (int rate = 1; rate <= 6; rate++) {
                int rule = 2 * (rate - 1) + 12 * (flow % 3) + flow % 2;
                int want = 0;
                while (16 * (want + 1) <= flow * rate) {
                    want++;
                }
                Due.due("by " + flow + " times " + rate, d.height(rule, 1, 1, 1), want);
            }
        }
        d.spring(1, 1, 1000);
        Due.due("1000 times 1", d.height(0, 1, 1, 1), 62);
        Due.due("1000 times 3", d.height(4, 1, 1, 1), 187);
        Due.due("1000 times 6", d.height(11, 1, 1, 1), 200);
        Due.due("others do not", d.height(11, 1, 0, 1), 0);
    }

    private static void lakeNotAboveLevel() {
        Due.sentence("II: yet not above LEVEL");
        for (int height = 35; height <= 39; height++) {
            DeltaRuns d = Due.flat(2, 2, 100);
            Due.put(d, 1, 1, height);
            d.level(40);
            d.spring(1, 1, 48);
            Due.due("by 3 from " + height, d.height(0, 1, 1, 1), Math.min(40, height + 3));
            Due.due("LAKE behind it", d.lake(0, 1), height + 3 < 40 ? 1 : 0);
            Due.due("by 18 from " + height, d.height(10, 1, 1, 1), 40);
        }
        DeltaRuns d = Due.flat(2, 2, 100);
        Due.put(d, 1, 1, 39);
        d.level(40);
        d.spring(1, 1, 1);
        Due.due("a PIT of the LAKE is no other PIT", d.height(0, 30, 1, 1), 39);
        d.spring(1, 1, 15);
        Due.due("15 RATE 1 lay none", d.height(1, 30, 1, 1), 39);
        d.spring(1, 1, 16);
        Due.due("16 RATE 1", d.height(1, 1, 1, 1), 40);
        Due.due("at LEVEL it is a PIT like any", d.height(1, 2, 1, 1), 41);
        Due.due("year by year", d.height(1, 30, 1, 1), 69);
    }

    private static void lakeAtTheBoundsOfLevel() {
        Due.sentence("I: LEVEL (0 .. 200): what a YEAR does there");
        DeltaRuns d = Due.flat(2, 2, 200);
        Due.put(d, 0, 0, 199);
        d.level(200);
        d.spring(0, 0, 1000);
        Due.due("up to LEVEL 200", d.height(11, 1, 0, 0), 200);
        Due.due("no further", d.height(11, 2, 0, 0), 200);
        Due.due("one LAKE", d.lake(0, 0), 1);
        Due.due("none", d.lake(0, 1), 0);
        d.land(0, 0, 1, 1, 0);
        d.level(1);
        d.spring(0, 0, 15);
        Due.due("LEVEL 1, RATE 1", d.height(0, 30, 0, 0), 0);
        Due.due("LEVEL 1, RATE 2", d.height(2, 1, 0, 0), 1);
        Due.due("LEVEL 1, RATE 6", d.height(11, 1, 0, 0), 1);
        d.level(0);
        Due.due("LEVEL 0: no LAKE, a PIT", d.height(0, 1, 0, 0), 1);
        Due.due("LEVEL 0, RATE 6", d.height(10, 1, 0, 0), 1);
    }

    private static void lakePassesOn() {
        Due.sentence("II: got f of FLOW (passed on or not)");
        DeltaRuns d = Due.flat(3, 2, 200);
        Due.put(d, 0, 0, 30);
        Due.put(d, 1, 0, 20);
        Due.put(d, 2, 0, 10);
        d.level(40);
        d.spring(0, 0, 16);
        for (int rule = 0; rule < 36; rule += 12) {
            Due.due("the first, passed on", d.height(rule, 1, 0, 0), 31);
            Due.due("the second, passed on", d.height(rule + 1, 1, 1, 0), 21);
            Due.due("the last, not", d.height(rule, 1, 2, 0), 11);
            Due.due("all of it came to the last", d.flow(rule, 1, 2, 0), 16);
        }
        Due.due("WEAR takes none of a LAKE", d.height(1, 5, 0, 0), 35);
    }

    private static void wearAtSixteen() {
        Due.sentence("II: another CELL that got 16 or more falls by WEAR");
        for (int flow : new int[] {0, 1, 14, 15, 16, 17, 1000}) {
            DeltaRuns d = Due.flat(3, 2, 200);
            Due.put(d, 0, 0, 100);
            Due.put(d, 1, 0, 90);
            Due.put(d, 2, 0, 50);
            d.spring(0, 0, flow);
            for (int rule = 0; rule < 36; rule++) {
                int worn = rule % 2 == 1 && flow >= 16 ? 1 : 0;
                Due.due("the SPRING by " + flow + " under " + rule, d.height(rule, 1, 0, 0), 100 - worn);
                Due.due("a CELL on the way by " + flow, d.height(rule, 1, 1, 0), 90 - worn);
                Due.due("the PIT at its end by " + flow, d.height(rule, 1, 2, 0), flow > 0 ? 51 : 50);
                Due.due("a CELL beside", d.height(rule, 1, 1, 1), 200);
            }
            int years = flow >= 16 ? 20 : 0;
            Due.due("in twenty YEARS by " + flow, d.height(1, 20, 0, 0), 100 - years);
            Due.due("without WEAR", d.height(0, 20, 0, 0), 100);
        }
    }

    private static void wearAtTheLevel() {
        Due.sentence("II: another CELL (of the LAKE or a PIT it is none)");
        for (int height = 39; height <= 41; height++) {
            DeltaRuns d = Due.flat(3, 2, 200);
            Due.put(d, 0, 0, height);
            Due.put(d, 1, 0, 10);
            d.level(40);
            d.spring(0, 0, 16);
            Due.due("without WEAR from " + height, d.height(0, 1, 0, 0), Math.max(40, height));
            Due.due("with WEAR from " + height, d.height(1, 1, 0, 0), height < 40 ? height + 1 : height - 1);
        }
        DeltaRuns d = Due.flat(3, 2, 200);
        Due.put(d, 0, 0, 40);
        Due.put(d, 1, 0, 10);
        d.level(40);
        d.spring(0, 0, 16);
        for (int year = 0; year <= 9; year++) {
            Due.due("at LEVEL it wears, below it rises, YEAR " + year, d.height(1, year, 0, 0), 40 - year % 2);
            Due.due("LAKES in YEAR " + year, d.lake(1, year), 1 + year % 2);
        }
    }

    private static void wearToZero() {
        Due.sentence("II: falls by WEAR (0 at least)");
        DeltaRuns d = Due.flat(2, 2, 200);
        Due.put(d, 0, 0, 1);
        Due.put(d, 1, 0, 0);
        d.spring(0, 0, 1000);
        Due.due("from 1 to 0", d.height(1, 1, 0, 0), 0);
        Due.due("without WEAR", d.height(0, 1, 0, 0), 1);
        Due.due("then a PIT", d.height(1, 2, 0, 0), 1);
        for (int rule = 0; rule < 36; rule++) {
            for (int year = 0; year <= 5; year++) {
                Due.due("never below 0", d.height(rule, year, 0, 0) >= 0 ? 1 : 0, 1);
            }
        }
    }

    private static void allAtOnce() {
        Due.sentence("II: Then all at once");
        // The lake rises to the height of what lies below the spring, which the water of that year has passed.
        DeltaRuns d = Due.flat(3, 2, 200);
        Due.put(d, 0, 0, 42);
        Due.put(d, 1, 0, 41);
        Due.put(d, 2, 0, 39);
        d.level(40);
        d.spring(0, 0, 1000);
        Due.due("the SPRING wears", d.height(1, 1, 0, 0), 41);
        Due.due("the next wears", d.height(1, 1, 1, 0), 40);
        Due.due("the LAKE rises to LEVEL", d.height(1, 1, 2, 0), 40);
        Due.due("so the next is a PIT", d.flow(1, 2, 2, 0), 0);
        Due.due("and rises", d.height(1, 2, 1, 0), 41);
        Due.due("while the SPRING wears", d.height(1, 2, 0, 0), 40);
        Due.due("a PIT then itself", d.flow(1, 3, 1, 0), 0);
        Due.due("and it rises", d.height(1, 3, 0, 0), 41);
        Due.due("the next does not", d.height(1, 3, 1, 0), 41);
    }
}
