import java.util.function.IntUnaryOperator;

/** What the tests of boundaries share: answers beside what is due, under the sentence that asks it. */
final class Due {
    private static int wrong = 0;
    private static int made = 0;
    private static String sentence = "";

    private Due() {
    }

    /** The document's words that the next answers stand under. */
    static void sentence(String words) {
        sentence = words;
    }

    static void due(String call, int got, int want) {
        made++;
        if (got != want) {
            wrong++;
            if (wrong <= 40) {
                System.out.println("'" + sentence + "': " + call + " answered " + got + ", due is " + want);
            }
        }
    }

    static void not(String call, int got, int bad) {
        made++;
        if (got == bad) {
            wrong++;
            if (wrong <= 40) {
                System.out.println("'" + sentence + "': " + call + " answered " + got);
            }
        }
    }

    /** Both ends are taken, and the first ones beyond them and the ends of all numbers are not. */
    static void edges(String what, int least, int greatest, int refused, IntUnaryOperator call) {
        int[] without = {least - 1, greatest + 1, Integer.MIN_VALUE, Integer.MAX_VALUE};
        for (int n : without) {
            due(what + " " + n, call.applyAsInt(n), refused);
        }
        not(what + " " + least, call.applyAsInt(least), refused);
        not(what + " " + greatest, call.applyAsInt(greatest), refused);
        for (int n : without) {
            due(what + " " + n + " again", call.applyAsInt(n), refused);
        }
    }

    /** Feeds a text of signs 0 to 255, and ends the tape behind it. */
    static void feed(DeltaRuns d, String text) {
        int before = d.count(6);
        for (int i = 0; i < text.length(); i += 20) {
            int[] five = new int[5];
            for (int k = 0; k < 20; k++) {
                char sign = i + k < text.length() ? text.charAt(i + k) : '!';
                five[k / 4] = five[k / 4] << 8 | sign;
            }
            d.feed(five[0], five[1], five[2], five[3], five[4]);
        }
        due("end behind " + text, d.end(before + text.length()), before + text.length());
    }

    static int plan(DeltaRuns d, String text) {
        feed(d, text);
        return d.plan();
    }

    /** A land of one height, without a lake. */
    static DeltaRuns flat(int w, int h, int height) {
        DeltaRuns d = new DeltaRuns();
        due("size of a flat land", d.size(w, h), 0);
        due("its level", d.level(0), 0);
        due("its cells", d.land(0, 0, w - 1, h - 1, height), w * h);
        return d;
    }

    static void put(DeltaRuns d, int x, int y, int height) {
        due("land of one cell", d.land(x, y, x, y, height), 1);
    }

    static void end() {
        System.out.println(wrong == 0 ? "all " + made + " answers are as due" : wrong + " of " + made + " are not");
        if (wrong != 0) {
            System.exit(1);
        }
    }
}
