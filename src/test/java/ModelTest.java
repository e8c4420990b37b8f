import java.util.ArrayList;
import java.util.Arrays;
import java.util.Comparator;
import java.util.List;
import java.util.Random;
import java.util.regex.Matcher;
import java.util.regex.Pattern;

/**
 * Long mixed runs of calls, each answer beside that of a second program, written from the document
 * alone: it keeps nothing, runs everything anew and sorts all cells.
 */
public final class ModelTest {
    private static int wrong = 0;
    private static final int[] answersSeen = new int[20];

    public static void main(String[] args) {
        for (int seed = 1; seed <= 144; seed++) {
            oneRun(seed, 12 - seed % 4 * 3, 10 - seed % 3 * 3);
        }
        for (int seed = 1000; seed < 1300; seed++) {
            runOfPlans(seed);
        }
        for (int i = 1; i < answersSeen.length; i++) {
            if (answersSeen[i] == 0) {
                wrong++;
                System.out.println("no call of promise " + i + " had an answer of its own");
            }
        }
        System.out.println(wrong == 0 ? "all answers are the model's" : wrong + " answers are not the model's");
        if (wrong != 0) {
            System.exit(1);
        }
    }

    private static void oneRun(int seed, int w, int h) {
        Random random = new Random(seed);
        DeltaRuns real = new DeltaRuns();
        Model model = new Model();
        Caller caller = new Caller(random, real, model, seed);
        caller.call(2, w, h);
        for (int i = 0; i < 300 && wrong < 20; i++) {
            caller.anyCall(i < 60 ? 40 : seed % 4 < 2 ? 0 : 2);
        }
    }

    private static void runOfPlans(int seed) {
        Caller caller = new Caller(new Random(seed), new DeltaRuns(), new Model(), seed);
        for (int i = 0; i < 25 && wrong < 20; i++) {
            caller.planCalls();
        }
        for (int year = 1; year <= 30; year++) {
            caller.call(10, seed % 36, year, seed % 6, seed / 6 % 6);
        }
    }

    /** Makes the same call on both, and compares. */
    private static final class Caller {
        private final Random random;
        private final DeltaRuns real;
        private final Model model;
        private final int seed;
        private final List<String> story = new ArrayList<>();

        Caller(Random random, DeltaRuns real, Model model, int seed) {
            this.random = random;
            this.real = real;
            this.model = model;
            this.seed = seed;
        }

        /** Of a hundred calls some change the runs: many at first, then few, so that entries stay true. */
        void anyCall(int changes) {
            int kind = random.nextInt(100) < changes ? random.nextInt(25)
                    : 25 + random.nextInt(changes > 10 ? 27 : 75);
            if (kind < 1) {
                call(2, pick(2, 12), pick(2, 10));
            } else if (kind < 10) {
                int x = random.nextInt(model.w);
                int y = random.nextInt(model.h);
                call(3, near(x), near(y), near(x + random.nextInt(model.w - x)),
                        near(y + random.nextInt(model.h - y)), pick(0, 200));
            } else if (kind < 12) {
                call(4, pick(0, 200));
            } else if (kind < 15) {
                call(5, pick(0, model.w - 1), pick(0, model.h - 1), pick(0, 1000));
            } else if (kind < 25) {
                planCalls();
            } else if (kind < 35) {
                call(10, pick(0, 35), pick(0, 30), pick(0, model.w - 1), pick(0, model.h - 1));
            } else if (kind < 47) {
                call(11, pick(0, 35), pick(1, 30), pick(0, model.w - 1), pick(0, model.h - 1));
            } else if (kind < 52) {
                call(12, pick(0, 35), pick(0, 30));
            } else if (kind < 72) {
                mapCall();
            } else if (kind < 80) {
                call(14, random.nextBoolean() ? -1 : pick(0, 35), day());
            } else if (kind < 88) {
                call(15, pick(0, model.w - 1), pick(0, model.h - 1), pick(0, 30), day(), pick(0, 2));
            } else if (kind < 93) {
                call(16, day());
            } else if (kind < 98) {
                call(17, pick(0, 35), day());
            } else {
                call(18, pick(0, 6));
            }
            if (random.nextInt(4) == 0) {
                call(19);
            }
        }

        private int near(int n) {
            return random.nextInt(40) == 0 ? n + random.nextInt(3) - 1 : n;
        }

        private int day() {
            return random.nextInt(3) == 0 ? pick(0, 1000) : 500 + random.nextInt(20);
        }

        /** Within, or now and then on an edge or without. */
        private int pick(int least, int greatest) {
            int how = random.nextInt(60);
            if (how == 0) {
                return least - 1;
            }
            if (how == 1) {
                return greatest + 1;
            }
            if (how == 2) {
                return random.nextInt();
            }
            if (how == 3) {
                return least;
            }
            if (how == 4) {
                return greatest;
            }
            return least + random.nextInt(greatest - least + 1);
        }

        /** Most entries are true under a rule of the seed's, so that some rules stay. */
        private void mapCall() {
            int year = pick(0, 30);
            int x = pick(0, model.w - 1);
            int y = pick(0, model.h - 1);
            int doubt = seed % 2 == 0 ? 10 : 100;
            int rule = random.nextInt(doubt) == 0 ? random.nextInt(36) : seed % 36;
            int height = model.height(rule, year, x, y);
            call(13, year, x, y, height < 0 || random.nextInt(doubt) == 0 ? pick(0, 200) : height, day());
        }

        void planCalls() {
            StringBuilder text = new StringBuilder();
            int acts = random.nextInt(10) == 0 ? 18 + random.nextInt(5) : random.nextInt(8);
            boolean close = acts > 12;
            for (int i = 0; i < acts; i++) {
                text.append(i == 0 ? "" : close ? ";" : " ; ".substring(random.nextInt(2), 2 + random.nextInt(2)));
                text.append(act(close));
            }
            if (random.nextInt(4) == 0 && text.length() > 0) {
                int place = random.nextInt(text.length());
                String signs = " ;0129yeartdkcubo-A\t" + (char) 233;
                char sign = signs.charAt(random.nextInt(signs.length()));
                switch (random.nextInt(3)) {
                    case 0 -> text.setCharAt(place, sign);
                    case 1 -> text.insert(place, sign);
                    default -> text.setLength(place);
                }
            }
            feedText(text.toString());
            if (random.nextInt(10) != 0) {
                call(8);
                call(9);
            }
        }

        private String act(boolean close) {
            String gap = close ? "" : " ".repeat(random.nextInt(3));
            String year = "year" + gap + (random.nextInt(2) == 0 ? pick(1, 5) : pick(1, 30)) + gap;
            String at = gap + (close ? random.nextInt(10) : pick(0, Math.min(11, model.w))) + " "
                    + (close ? random.nextInt(10) : pick(0, Math.min(9, model.h)));
            return switch (random.nextInt(close ? 2 : 4)) {
                case 0 -> year + "dyke" + at;
                case 1 -> year + "open" + at;
                case 2 -> year + "cut" + at + gap + "by" + gap + pick(0, 200);
                default -> year + "dredge" + at + gap + "to" + gap + pick(0, 200);
            };
        }

        private void feedText(String text) {
            int before = model.tape.length();
            for (int i = 0; i < text.length(); i += 20) {
                int[] five = new int[5];
                for (int k = 0; k < 20; k++) {
                    char sign = i + k < text.length() ? text.charAt(i + k) : ' ';
                    five[k / 4] = five[k / 4] << 8 | sign;
                }
                call(6, five);
            }
            call(7, random.nextInt(20) == 0 ? pick(0, model.tape.length()) : before + text.length());
        }

        void call(int promise, int... a) {
            int due = onModel(promise, a);
            int got = onReal(promise, a);
            story.add("promise " + promise + Arrays.toString(a) + " -> " + got);
            if (due != -1 && due != -100) {
                answersSeen[promise]++;
                answersSeen[1]++;
            }
            if (got != due) {
                wrong++;
                System.out.println("seed " + seed + ", call " + story.size() + ", " + story.get(story.size() - 1)
                        + ", the model says " + due);
            }
        }

        private int onReal(int promise, int[] a) {
            return switch (promise) {
                case 2 -> real.size(a[0], a[1]);
                case 3 -> real.land(a[0], a[1], a[2], a[3], a[4]);
                case 4 -> real.level(a[0]);
                case 5 -> real.spring(a[0], a[1], a[2]);
                case 6 -> real.feed(a[0], a[1], a[2], a[3], a[4]);
                case 7 -> real.end(a[0]);
                case 8 -> real.plan();
                case 9 -> real.fault();
                case 10 -> real.height(a[0], a[1], a[2], a[3]);
                case 11 -> real.flow(a[0], a[1], a[2], a[3]);
                case 12 -> real.lake(a[0], a[1]);
                case 13 -> real.map(a[0], a[1], a[2], a[3], a[4]);
                case 14 -> real.stays(a[0], a[1]);
                case 15 -> real.foretold(a[0], a[1], a[2], a[3], a[4]);
                case 16 -> real.wasted(a[0]);
                case 17 -> real.against(a[0], a[1]);
                case 18 -> real.count(a[0]);
                default -> real.status();
            };
        }

        private int onModel(int promise, int[] a) {
            return switch (promise) {
                case 2 -> model.changed(model.size(a[0], a[1]));
                case 3 -> model.changed(model.land(a[0], a[1], a[2], a[3], a[4]));
                case 4 -> model.changed(model.level(a[0]));
                case 5 -> model.changed(model.spring(a[0], a[1], a[2]));
                case 6 -> model.feed(a);
                case 7 -> model.end(a[0]);
                case 8 -> model.changed(model.plan());
                case 9 -> model.fault;
                case 10 -> model.height(a[0], a[1], a[2], a[3]);
                case 11 -> model.flow(a[0], a[1], a[2], a[3]);
                case 12 -> model.lake(a[0], a[1]);
                case 13 -> model.told(model.map(a[0], a[1], a[2], a[3], a[4]));
                case 14 -> model.stays(a[0], a[1]);
                case 15 -> model.foretold(a[0], a[1], a[2], a[3], a[4]);
                case 16 -> model.wasted(a[0]);
                case 17 -> model.against(a[0], a[1]);
                case 18 -> model.count(a[0]);
                default -> model.status;
            };
        }
    }

    private record Act(int year, String verb, int x, int y, int number) {
    }

    private record Entry(int year, int x, int y, int height, int known) {
    }

    /** What a run has behind it: heights by year, flows by year. */
    private record Run(int[][] heights, int[][] flows) {
    }

    private static final class Model {
        int w = 6;
        int h = 6;
        int lakeLevel = 40;
        int springX = 0;
        int springY = 0;
        int springFlow = 64;
        int status = 0;
        int fault = -1;
        StringBuilder tape = new StringBuilder();
        List<Act> acts = new ArrayList<>();
        List<Entry> entries = new ArrayList<>();
        int[] start = filled(36);
        private final Run[] runs = new Run[36];

        static int[] filled(int n) {
            int[] row = new int[n];
            Arrays.fill(row, 50);
            return row;
        }

        int told(int answer) {
            status = Math.min(answer, 0);
            return answer;
        }

        /** Runs depend on everything but the entries. */
        int changed(int answer) {
            Arrays.fill(runs, null);
            return told(answer);
        }

        boolean in(int n, int a, int b) {
            return a <= n && n <= b;
        }

        boolean cell(int x, int y) {
            return in(x, 0, w - 1) && in(y, 0, h - 1);
        }

        int size(int nw, int nh) {
            if (!in(nw, 2, 12) || !in(nh, 2, 10)) {
                return -1;
            }
            w = nw;
            h = nh;
            start = filled(w * h);
            springX = 0;
            springY = 0;
            entries.clear();
            return 0;
        }

        int land(int x, int y, int u, int v, int height) {
            if (!in(height, 0, 200) || u < x || v < y) {
                return -1;
            }
            if (!cell(x, y) || !cell(u, v)) {
                return -2;
            }
            for (int i = 0; i < start.length; i++) {
                if (in(i % w, x, u) && in(i / w, y, v)) {
                    start[i] = height;
                }
            }
            return (u - x + 1) * (v - y + 1);
        }

        int level(int n) {
            if (!in(n, 0, 200)) {
                return -1;
            }
            lakeLevel = n;
            return 0;
        }

        int spring(int x, int y, int flow) {
            if (!in(flow, 0, 1000)) {
                return -1;
            }
            if (!cell(x, y)) {
                return -2;
            }
            springX = x;
            springY = y;
            springFlow = flow;
            return 0;
        }

        int feed(int[] five) {
            if (tape.length() > 280) {
                return -1;
            }
            for (int n : five) {
                for (int b = 3; b >= 0; b--) {
                    tape.append((char) (n >>> 8 * b & 255));
                }
            }
            return tape.length();
        }

        int end(int n) {
            if (!in(n, 0, tape.length())) {
                return -1;
            }
            tape.setLength(n);
            return n;
        }

        int plan() {
            String text = tape.toString();
            tape.setLength(0);
            List<String> tokens = new ArrayList<>();
            List<Integer> places = new ArrayList<>();
            Matcher m = Pattern.compile("[a-z]+|[0-9]+|[^ ]", Pattern.DOTALL).matcher(text);
            while (m.find()) {
                tokens.add(m.group());
                places.add(m.start());
            }
            tokens.add("");
            places.add(text.length());
            List<Act> read = new ArrayList<>();
            int bad = tokens.size() == 1 ? -1 : firstBad(tokens, read);
            if (bad >= 0) {
                fault = places.get(bad);
                return -6;
            }
            fault = -1;
            acts = read;
            return acts.size();
        }

        /** A little machine of states: each token is looked at beside what may stand there. */
        private int firstBad(List<String> tokens, List<Act> read) {
            String verb = "";
            int[] n = new int[4];
            int state = 0;
            for (int i = 0; i < tokens.size(); i++) {
                String t = tokens.get(i);
                boolean good = switch (state) {
                    case 0 -> t.equals("year") && read.size() < 20;
                    case 1 -> number(t, 1, 30);
                    case 2 -> List.of("dyke", "open", "cut", "dredge").contains(t);
                    case 3 -> number(t, 0, 11);
                    case 4 -> number(t, 0, 9);
                    case 5 -> t.equals(verb.equals("cut") ? "by" : "to");
                    case 6 -> number(t, 0, 200);
                    default -> t.equals(";") || t.equals("");
                };
                if (!good) {
                    return i;
                }
                if (state == 2) {
                    verb = t;
                }
                if (state == 1 || state == 3 || state == 4 || state == 6) {
                    n[state == 1 ? 0 : state == 3 ? 1 : state == 4 ? 2 : 3] = Integer.parseInt(t);
                }
                boolean digs = verb.equals("cut") || verb.equals("dredge");
                if (state == 6 || state == 4 && !digs) {
                    read.add(new Act(n[0], verb, n[1], n[2], n[3]));
                    state = 7;
                } else {
                    state = state == 7 ? 0 : state + 1;
                }
            }
            return -1;
        }

        private boolean number(String t, int a, int b) {
            return t.matches("[0-9]+") && new java.math.BigInteger(t).bitLength() < 20 && in(Integer.parseInt(t), a, b);
        }

        Run run(int rule) {
            if (runs[rule] == null) {
                runs[rule] = ranAnew(rule);
            }
            return runs[rule];
        }

        private Run ranAnew(int rule) {
            int cells = w * h;
            int[][] heights = new int[31][];
            int[][] flows = new int[31][];
            boolean[] dyke = new boolean[cells];
            heights[0] = start.clone();
            for (int year = 1; year <= 30; year++) {
                int[] now = heights[year - 1].clone();
                for (Act act : acts) {
                    if (act.year() == year && cell(act.x(), act.y())) {
                        int c = act.y() * w + act.x();
                        switch (act.verb()) {
                            case "dyke" -> dyke[c] = true;
                            case "open" -> dyke[c] = false;
                            case "cut" -> now[c] = now[c] < act.number() ? 0 : now[c] - act.number();
                            default -> now[c] = now[c] > act.number() ? act.number() : now[c];
                        }
                    }
                }
                boolean[] pit = new boolean[cells];
                flows[year] = flowed(now, dyke, pit, rule / 12);
                heights[year] = now.clone();
                for (int c = 0; c < cells; c++) {
                    int f = flows[year][c];
                    if (now[c] < lakeLevel) {
                        heights[year][c] = Math.min(lakeLevel, now[c] + f * (rule / 2 % 6 + 1) / 16);
                    } else if (pit[c] && f > 0) {
                        heights[year][c] = Math.min(200, now[c] + 1);
                    } else if (!pit[c] && f >= 16) {
                        heights[year][c] = Math.max(0, now[c] - rule % 2);
                    }
                }
            }
            return new Run(heights, flows);
        }

        private int[] flowed(int[] now, boolean[] dyke, boolean[] pit, int sort) {
            List<Integer> order = new ArrayList<>();
            for (int c = 0; c < now.length; c++) {
                order.add(c);
            }
            order.sort(Comparator.comparingInt((Integer c) -> -now[c]).thenComparingInt(c -> c));
            int[] came = new int[now.length];
            came[springY * w + springX] = springFlow;
            for (int c : order) {
                List<Integer> to = new ArrayList<>();
                int x = c % w;
                int y = c / w;
                if (x + 1 < w) to.add(c + 1);
                if (y + 1 < h) to.add(c + w);
                if (x > 0) to.add(c - 1);
                if (y > 0) to.add(c - w);
                to.removeIf(s -> dyke[s] || now[s] >= now[c]);
                pit[c] = to.isEmpty();
                if (!pit[c]) {
                    share(now, came, c, to, sort);
                }
            }
            return came;
        }

        private void share(int[] now, int[] came, int c, List<Integer> to, int sort) {
            int f = came[c];
            if (sort == 0) {
                came[to.stream().min(Comparator.comparingInt((Integer s) -> now[s])).get()] += f;
                return;
            }
            int all = to.stream().mapToInt(s -> sort == 1 ? 1 : now[c] - now[s]).sum();
            int left = f;
            for (int s : to) {
                int part = f * (sort == 1 ? 1 : now[c] - now[s]) / all;
                came[s] += part;
                left -= part;
            }
            List<Integer> byRest = new ArrayList<>(to);
            if (sort == 2) {
                byRest.sort(Comparator.comparingInt((Integer s) -> -(f * (now[c] - now[s]) % all)));
            }
            for (int i = 0; i < left; i++) {
                came[byRest.get(i)]++;
            }
        }

        int height(int rule, int year, int x, int y) {
            boolean can = in(rule, 0, 35) && in(year, 0, 30) && cell(x, y);
            return can ? run(rule).heights()[year][y * w + x] : -1;
        }

        int flow(int rule, int year, int x, int y) {
            boolean can = in(rule, 0, 35) && in(year, 1, 30) && cell(x, y);
            return can ? run(rule).flows()[year][y * w + x] : -1;
        }

        int lake(int rule, int year) {
            boolean can = in(rule, 0, 35) && in(year, 0, 30);
            return can ? (int) Arrays.stream(run(rule).heights()[year]).filter(n -> n < lakeLevel).count() : -1;
        }

        int map(int year, int x, int y, int height, int known) {
            if (!in(year, 0, 30) || !in(height, 0, 200) || !in(known, 0, 1000)) {
                return -1;
            }
            if (!cell(x, y)) {
                return -2;
            }
            if (entries.size() == 200) {
                return -5;
            }
            entries.add(new Entry(year, x, y, height, known));
            return entries.size();
        }

        boolean agrees(int rule, Entry e) {
            return height(rule, e.year(), e.x(), e.y()) == e.height();
        }

        List<Integer> staying(int known, int without) {
            List<Integer> rules = new ArrayList<>();
            for (int r = 0; r < 36; r++) {
                boolean stays = true;
                for (int i = 0; i < entries.size(); i++) {
                    Entry e = entries.get(i);
                    stays &= i == without || e.known() > known || agrees(r, e);
                }
                if (stays) {
                    rules.add(r);
                }
            }
            return rules;
        }

        int stays(int i, int known) {
            if (!in(known, 0, 1000)) {
                return -1;
            }
            List<Integer> rules = staying(known, -1);
            return i == -1 ? rules.size() : in(i, 0, rules.size() - 1) ? rules.get(i) : -1;
        }

        int foretold(int x, int y, int year, int known, int what) {
            if (!cell(x, y) || !in(year, 0, 30) || !in(known, 0, 1000) || !in(what, 0, 2)) {
                return -100;
            }
            int[] all = staying(known, -1).stream().mapToInt(r -> height(r, year, x, y)).sorted().toArray();
            if (all.length == 0) {
                return -100;
            }
            int before = start[y * w + x];
            if (what == 2) {
                boolean grows = Arrays.stream(all).allMatch(n -> n > before);
                boolean sinks = Arrays.stream(all).allMatch(n -> n < before);
                return grows ? 1 : sinks ? -1 : 0;
            }
            return what == 0 ? all[0] : all[all.length - 1];
        }

        int wasted(int known) {
            if (!in(known, 0, 1000) || !staying(known, -1).isEmpty()) {
                return -1;
            }
            for (int i = 0; i < entries.size(); i++) {
                if (!staying(known, i).isEmpty()) {
                    return i;
                }
            }
            return -1;
        }

        int against(int rule, int known) {
            for (int i = 0; i < entries.size() && in(rule, 0, 35) && in(known, 0, 1000); i++) {
                if (entries.get(i).known() <= known && !agrees(rule, entries.get(i))) {
                    return i;
                }
            }
            return -1;
        }

        int count(int what) {
            int[] counts = {w, h, lakeLevel, springFlow, acts.size(), entries.size(), tape.length()};
            return in(what, 0, 6) ? counts[what] : -1;
        }
    }
}
