/**
 * Terms III and promises 8 and 9: the plan's text byte by byte, its numbers, its faults, the most acts
 * and bytes, and its works at their bounds.
 */
public final class BoundsOfPlansTest {
    private static final String[] VERBS = {"dyke", "open", "cut", "dredge"};
    private static final String[] TAILS = {"", "", " by 7", " to 7"};

    public static void main(String[] args) {
        blanksAlone();
        emptyPlanWorksNothing();
        refusedPlanStays();
        eachByteAlone();
        eachByteBetween();
        eachByteBehind();
        eachByteInAWord();
        longestRows();
        blanksAnywhere();
        prefixes();
        wrongTokens();
        years();
        columnsAndRows();
        numbers();
        numbersBeyondAnInt();
        faultOfTheLatest();
        twentyActs();
        threeHundredBytes();
        dykeFromThenOn();
        openThen();
        cuts();
        dredges();
        inTheOrderOfTheText();
        atNoCell();
        Due.end();
    }

    private static void taken(String text, int acts) {
        DeltaRuns d = new DeltaRuns();
        Due.due("plan of '" + text + "'", Due.plan(d, text), acts);
        Due.due("fault of '" + text + "'", d.fault(), -1);
        Due.due("status of '" + text + "'", d.status(), 0);
        Due.due("ACTS of '" + text + "'", d.count(4), acts);
        Due.due("the TAPE behind '" + text + "'", d.count(6), 0);
    }

    private static void faulty(String text, int place) {
        DeltaRuns d = new DeltaRuns();
        Due.due("plan of '" + text + "'", Due.plan(d, text), -6);
        Due.due("fault of '" + text + "'", d.fault(), place);
        Due.due("status of '" + text + "'", d.status(), -6);
        Due.due("ACTS of '" + text + "'", d.count(4), 0);
        Due.due("the TAPE behind '" + text + "'", d.count(6), 0);
    }

    private static void blanksAlone() {
        Due.sentence("8: how many ACTS (blanks alone: none)");
        for (int n : new int[] {0, 1, 2, 19, 20, 21, 299, 300}) {
            taken(" ".repeat(n), 0);
        }
    }

    private static void emptyPlanWorksNothing() {
        Due.sentence("8: The TAPE, which is empty then, becomes the PLAN");
        DeltaRuns d = Due.flat(2, 2, 50);
        d.spring(0, 0, 0);
        Due.due("one ACT", Due.plan(d, "year 1 cut 1 1 by 1"), 1);
        Due.due("it works", d.height(0, 1, 1, 1), 49);
        Due.due("another", Due.plan(d, "year 1 cut 1 0 by 1"), 1);
        Due.due("the old one does not", d.height(0, 1, 1, 1), 50);
        Due.due("the new one does", d.height(0, 1, 1, 0), 49);
        Due.due("none", Due.plan(d, "  "), 0);
        Due.due("none works", d.height(0, 30, 1, 0), 50);
        Due.due("three", Due.plan(d, "year 1 cut 0 1 by 1;year 1 cut 1 1 by 1;year 1 cut 1 0 by 1"), 3);
        Due.due("one of them, by an empty TAPE none", d.plan(), 0);
        Due.due("none works", d.height(0, 30, 1, 0), 50);
    }

    private static void refusedPlanStays() {
        Due.sentence("8: -6: it stays, FAULT is told");
        DeltaRuns d = Due.flat(2, 2, 50);
        d.spring(0, 0, 0);
        Due.plan(d, "year 1 cut 1 1 by 1; year 2 cut 1 1 by 1");
        String[] bad = {"x", "year", "year 1 cut 1 1 by 30;", "year 1 cut 1 1 by 30; year 2 dredge 0 0 to 3 x"};
        int[] places = {0, 4, 21, 45};
        for (int i = 0; i < bad.length; i++) {
            Due.due("plan of " + bad[i], Due.plan(d, bad[i]), -6);
            Due.due("fault of " + bad[i], d.fault(), places[i]);
            Due.due("ACTS", d.count(4), 2);
            Due.due("the TAPE", d.count(6), 0);
            Due.due("its first works", d.height(0, 1, 1, 1), 49);
            Due.due("its second works", d.height(0, 2, 1, 1), 48);
            Due.due("a RULE that had not run", d.height(i + 1, 30, 1, 1), 48);
            Due.due("no other works", d.height(0, 2, 0, 0), 50);
        }
    }

    private static boolean letter(int sign) {
        return sign >= 97 && sign <= 122;
    }

    private static boolean digit(int sign) {
        return sign >= 48 && sign <= 57;
    }

    private static void eachByteAlone() {
        Due.sentence("III: any blanks (32) between TOKENS");
        for (int sign = 0; sign < 256; sign++) {
            if (sign == 32) {
                taken("" + (char) sign, 0);
            } else {
                faulty("" + (char) sign, 0);
                faulty("  " + (char) sign + " ", 2);
            }
        }
    }

    private static void eachByteBetween() {
        Due.sentence("III: TOKENS (longest rows of letters a .. z, of digits, single other bytes)");
        for (int sign = 0; sign < 256; sign++) {
            String between = "year" + (char) sign + "1 dyke 0 0";
            if (sign == 32 || sign >= '0' && sign <= '2') {
                taken(between, 1);
            } else {
                faulty(between, letter(sign) ? 0 : 4);
            }
            String number = "year 1" + (char) sign + "dyke 0 0";
            if (sign == 32 || digit(sign)) {
                taken(number, 1);
            } else {
                faulty(number, 6);
            }
            String acts = "year 1 dyke 0 0" + (char) sign + "year 1 open 0 0";
            if (sign == ';') {
                taken(acts, 2);
            } else {
                faulty(acts, sign == 32 || digit(sign) ? 16 : 15);
            }
        }
    }

    private static void eachByteBehind() {
        for (int sign = 0; sign < 256; sign++) {
            String text = "year 1 dyke 0 0" + (char) sign;
            if (sign == 32 || digit(sign)) {
                taken(text, 1);
            } else {
                faulty(text, sign == ';' ? 16 : 15);
            }
            String number = "year 1 cut 0 0 by 1" + (char) sign;
            if (sign == 32 || digit(sign)) {
                taken(number, 1);
            } else {
                faulty(number, sign == ';' ? 20 : 19);
            }
        }
    }

    private static void eachByteInAWord() {
        for (int sign = 0; sign < 256; sign++) {
            char c = (char) sign;
            if (sign != 'a') {
                faulty("ye" + c + "r 1 dyke 0 0", 0);
            }
            faulty(c + "year 1 dyke 0 0", sign == 32 ? -1 : 0, sign == 32);
            faulty("year 1 dyk" + c + " 0 0", 7, sign == 'e');
            faulty("year 1 ope" + c + " 0 0", 7, sign == 'n');
            faulty("year 1 cu" + c + " 0 0 by 1", 7, sign == 't');
            faulty("year 1 dredg" + c + " 0 0 to 1", 7, sign == 'e');
            faulty("year 1 cut 0 0 b" + c + " 1", 15, sign == 'y');
            faulty("year 1 dredge 0 0 t" + c + " 1", 18, sign == 'o');
        }
    }

    private static void faulty(String text, int place, boolean good) {
        if (good) {
            taken(text, 1);
        } else {
            faulty(text, place);
        }
    }

    private static void longestRows() {
        Due.sentence("III: longest rows of letters a .. z, of digits");
        taken("year1dyke0 0", 1);
        taken("year1cut0 0by1;year1dredge0 0to1", 2);
        faulty("yearyear 1 dyke 0 0", 0);
        faulty("year 1 dykeopen 0 0", 7);
        faulty("y ear 1 dyke 0 0", 0);
        faulty("year 1 dy ke 0 0", 7);
        faulty("year 1 dyke 00", 14);
        faulty("year 3 0 dyke 0 0", 7);
        faulty("year 1 dyke 1 1 1", 16);
        faulty("year 1 dyke 11 1 1", 17);
        faulty("year 1 cut 0 0 by 2 00", 20);
        faulty("year 1 cut 0 0 byto 2", 15);
        faulty("year 300 dyke 0 0", 5);
        faulty("year 1 dyke 0 0;;year 1 dyke 0 0", 16);
    }

    private static void blanksAnywhere() {
        Due.sentence("III: any blanks (32) between TOKENS");
        String[] tokens = {"year", "1", "cut", "2", "3", "by", "4", ";", "year", "30", "open", "0", "0"};
        for (int at = 0; at <= tokens.length; at++) {
            StringBuilder text = new StringBuilder();
            for (int i = 0; i <= tokens.length; i++) {
                text.append(i == at ? " ".repeat(100) : " ");
                text.append(i < tokens.length ? tokens[i] : "");
            }
            taken(text.toString(), 2);
        }
        taken("year1cut2 3by4;year30open0 0", 2);
    }

    private static void prefixes() {
        Due.sentence("III: FAULT: the first TOKEN that can't go on there (the end's: the TEXT's length)");
        String text = "  year 12 dredge 11 9 to 200 ; year 3 cut 4 5 by 6;year 7 dyke 8 9";
        String[] words = {"year", "dredge", "to", "cut", "by", "dyke"};
        for (int n = 0; n <= text.length(); n++) {
            String part = text.substring(0, n);
            int cut = -1;
            for (String word : words) {
                for (int at = text.indexOf(word); at >= 0; at = text.indexOf(word, at + 1)) {
                    cut = n > at && n < at + word.length() ? at : cut;
                }
            }
            if (n <= 2) {
                taken(part, 0);
            } else if (n >= 26 && n <= 29) {
                taken(part, 1);
            } else if (n == 50) {
                taken(part, 2);
            } else if (n == text.length()) {
                taken(part, 3);
            } else {
                faulty(part, cut >= 0 ? cut : n);
            }
        }
    }

    private static void wrongTokens() {
        Due.sentence("III: ACT {\";\" ACT}. ACT: \"year\" YEAR (\"dyke\" X Y | \"open\" X Y | \"cut\" X Y \"by\" NUMBER | ..");
        String[] cut = {"year", "1", "cut", "2", "3", "by", "4", ";", "year", "5", "dyke", "6", "7", ";",
            "year", "8", "dredge", "9", "1", "to", "2"};
        String[] wrong = {"year", "dyke", "open", "cut", "dredge", "by", "to", ";", "x", ",", "-", "201"};
        for (int at = 0; at < cut.length; at++) {
            for (String other : wrong) {
                StringBuilder text = new StringBuilder();
                int place = 0;
                for (int i = 0; i < cut.length; i++) {
                    place = i == at ? text.length() : place;
                    text.append(i == at ? other : cut[i]).append(' ');
                }
                wrongToken(cut[at], other, at, text.toString(), place);
            }
        }
    }

    /** One verb in another's place may go on a little: what follows it can't then. */
    private static void wrongToken(String due, String other, int at, String text, int place) {
        if (other.equals(due)) {
            taken(text, 3);
        } else if (at == 10 && (other.equals("cut") || other.equals("dredge"))) {
            faulty(text, text.indexOf("; year 8"));
        } else if (at == 10 && other.equals("open")) {
            taken(text, 3);
        } else if (at == 2 && (other.equals("dyke") || other.equals("open") || other.equals("dredge"))) {
            faulty(text, text.indexOf("by"));
        } else if (at == 16 && (other.equals("dyke") || other.equals("open") || other.equals("cut"))) {
            faulty(text, text.indexOf("to"));
        } else {
            faulty(text, place);
        }
    }

    private static void years() {
        Due.sentence("III: YEARS 1 .. 30");
        for (int v = 0; v < 4; v++) {
            for (int year = 0; year <= 33; year++) {
                faulty("year " + year + " " + VERBS[v] + " 0 0" + TAILS[v], 5, year >= 1 && year <= 30);
            }
        }
        DeltaRuns d = Due.flat(2, 2, 50);
        d.spring(0, 0, 0);
        for (int year = 1; year <= 30; year++) {
            Due.due("plan", Due.plan(d, "year " + year + " cut 1 1 by 1"), 1);
            Due.due("as of the YEAR before " + year, d.height(0, year - 1, 1, 1), 50);
            Due.due("as of YEAR " + year, d.height(0, year, 1, 1), 49);
            Due.due("once", d.height(0, 30, 1, 1), 49);
        }
    }

    private static void columnsAndRows() {
        Due.sentence("III: X to 11, Y to 9");
        for (int v = 0; v < 4; v++) {
            String start = "year 1 " + VERBS[v] + " ";
            for (int n = 0; n <= 14; n++) {
                faulty(start + n + " 0" + TAILS[v], start.length(), n <= 11);
                faulty(start + "0 " + n + TAILS[v], start.length() + 2, n <= 9);
                faulty(start + "11 " + n + TAILS[v], start.length() + 3, n <= 9);
            }
            faulty(start + "12 10" + TAILS[v], start.length());
            faulty(start + "100 0" + TAILS[v], start.length());
            faulty(start + "0 90" + TAILS[v], start.length() + 2);
        }
    }

    private static void numbers() {
        Due.sentence("III: NUMBERS to 200");
        for (int n = 0; n <= 203; n++) {
            faulty("year 1 cut 0 0 by " + n, 18, n <= 200);
            faulty("year 1 dredge 0 0 to " + n, 21, n <= 200);
        }
        for (int n : new int[] {255, 256, 257, 456, 999, 1000, 2000}) {
            faulty("year 1 cut 0 0 by " + n, 18);
            faulty("year 1 dredge 0 0 to " + n, 21);
        }
    }

    private static void numbersBeyondAnInt() {
        Due.sentence("III: YEARS 1 .. 30, X to 11, Y to 9, NUMBERS to 200 (and no wrap-around)");
        String[] ones = {"257", "65537", "2147483647", "2147483648", "4294967295", "4294967296", "4294967297",
            "9223372036854775807", "18446744073709551617", "340282366920938463463374607431768211457"};
        for (String one : ones) {
            faulty("year " + one + " dyke 0 0", 5);
            faulty("year 1 dyke " + one + " 0", 12);
            faulty("year 1 dyke 0 " + one, 14);
            faulty("year 1 cut 0 0 by " + one, 18);
            faulty("year 1 dredge 0 0 to " + one, 21);
        }
        for (int digits = 1; digits <= 280; digits += 31) {
            faulty("year 1 dyke " + "1" + "0".repeat(digits) + " 0", 12, digits == 1);
            taken("year " + "0".repeat(digits) + "1 dyke 0 0", 1);
            faulty("year " + "0".repeat(digits) + " dyke 0 0", 5);
        }
        faulty("year -1 dyke 0 0", 5);
        faulty("year 1 dyke -0 0", 12);
        faulty("year +1 dyke 0 0", 5);
        faulty("year 1.0 dyke 0 0", 6);
    }

    private static void faultOfTheLatest() {
        Due.sentence("9: FAULT of the latest plan(): its place; NONE without");
        DeltaRuns d = new DeltaRuns();
        Due.due("ahead of any", d.fault(), -1);
        Due.plan(d, "year 1 dyke 12 0");
        Due.due("the first", d.fault(), 12);
        Due.due("told again", d.fault(), 12);
        Due.plan(d, "?");
        Due.due("another", d.fault(), 0);
        d.feed(0, 0, 0, 0, 0);
        d.end(0);
        d.size(2, 2);
        d.size(1, 1);
        d.level(5);
        Due.due("other calls leave it", d.fault(), 0);
        Due.due("taken", d.plan(), 0);
        Due.due("none then", d.fault(), -1);
        Due.plan(d, " ".repeat(299) + "x");
        Due.due("the greatest place of a TOKEN", d.fault(), 299);
        Due.plan(d, "year" + " ".repeat(296));
        Due.due("the greatest end", d.fault(), 300);
        Due.plan(d, "year 3 open 1 1");
        Due.due("none again", d.fault(), -1);
    }

    private static void twentyActs() {
        Due.sentence("III: 20 ACTS at most (the 21st's first TOKEN)");
        String act = "year1open0 0";
        for (int n = 1; n <= 22; n++) {
            String text = act + (";" + act).repeat(n - 1);
            if (n <= 20) {
                taken(text, n);
                faulty(text + ";", text.length() + 1);
                faulty(text + " ; ", text.length() + 3);
                faulty(text + ";x", text.length() + 1);
                faulty(text + "x", text.length());
                taken(text + " ", n);
            } else {
                faulty(text, 20 * (act.length() + 1));
                faulty(text + ";", 20 * (act.length() + 1));
            }
        }
        String twenty = act + (";" + act).repeat(19);
        faulty(twenty + ";   year 99", twenty.length() + 4);
        faulty(twenty + "   ;" + act, twenty.length() + 4);
        DeltaRuns d = Due.flat(2, 2, 50);
        d.spring(0, 0, 0);
        Due.due("19 and one that works", Due.plan(d, twenty.substring(13) + ";year1cut1 1by9"), 20);
        Due.due("the 20th works", d.height(0, 1, 1, 1), 41);
    }

    private static void threeHundredBytes() {
        Due.sentence("III: a TEXT of at most 300 bytes");
        String act = "year1dyke0 0";
        taken(" ".repeat(288) + act, 1);
        taken(act + " ".repeat(288), 1);
        faulty(" ".repeat(289) + act.substring(0, 11), 300);
        faulty(" ".repeat(288) + "year1dykes 0", 293);
        faulty("z".repeat(300), 0);
        faulty("9".repeat(300), 0);
        faulty(";".repeat(300), 0);
        faulty("year" + "1".repeat(296), 4);
        faulty("year1dyke0 " + "1".repeat(289), 11);
        taken("year1dyke0 " + "0".repeat(289), 1);
        DeltaRuns d = new DeltaRuns();
        Due.feed(d, " ".repeat(280));
        Due.due("behind 280", d.feed(0x79656172, 0x3164796B, 0x65302030, 0x20202020, 0x20202020), 300);
        Due.due("the last of 300", d.plan(), 1);
        Due.feed(d, "year 1 dyke 0 0x");
        d.end(15);
        Due.due("what was cut off does not count", d.plan(), 1);
        Due.feed(d, "year 1 dyke 0 0");
        d.plan();
        Due.feed(d, "year");
        Due.due("nor what was there before", d.plan(), -6);
        Due.due("it ends where it ends", d.fault(), 4);
    }

    /** A spring of 100 above one side of 50 between walls. */
    private static DeltaRuns chute() {
        DeltaRuns d = Due.flat(2, 2, 200);
        Due.put(d, 0, 0, 100);
        Due.put(d, 1, 0, 50);
        d.spring(0, 0, 5);
        return d;
    }

    private static void dykeFromThenOn() {
        Due.sentence("III: dyke: the CELL has a DYKE from then on");
        for (int first : new int[] {1, 2, 15, 29, 30}) {
            DeltaRuns d = chute();
            Due.plan(d, "year " + first + " dyke 1 0");
            for (int year = 1; year <= 30; year++) {
                Due.due("shut in " + first + ", YEAR " + year, d.flow(0, year, 1, 0), year < first ? 5 : 0);
            }
            Due.due("height behind all", d.height(0, 30, 1, 0), 50 + first - 1);
            Due.due("the SPRING is a PIT since", d.height(0, 30, 0, 0), 100 + 31 - first);
        }
        DeltaRuns d = chute();
        Due.plan(d, "year 2 dyke 1 0; year 3 dyke 1 0");
        Due.due("twice is as once", d.flow(0, 4, 1, 0), 0);
        Due.plan(d, "");
        Due.due("without the PLAN there is none", d.flow(0, 4, 1, 0), 5);
    }

    private static void openThen() {
        Due.sentence("III: open: none");
        for (int last : new int[] {1, 2, 3, 29, 30}) {
            DeltaRuns d = chute();
            Due.plan(d, "year 1 dyke 1 0; year " + last + " open 1 0");
            for (int year = 1; year <= 30; year++) {
                Due.due("opened in " + last + ", YEAR " + year, d.flow(0, year, 1, 0), year < last ? 0 : 5);
            }
        }
        DeltaRuns d = chute();
        Due.plan(d, "year 1 open 1 0");
        Due.due("where there was none", d.flow(0, 1, 1, 0), 5);
        Due.plan(d, "year 3 open 1 0; year 2 dyke 1 0");
        Due.due("open at first", d.flow(0, 1, 1, 0), 5);
        Due.due("by YEARS, not by the TEXT", d.flow(0, 2, 1, 0), 0);
        Due.due("then open", d.flow(0, 3, 1, 0), 5);
        Due.plan(d, "year 2 dyke 1 0; year 4 open 1 1; year 4 open 0 0");
        Due.due("another CELL's is another", d.flow(0, 5, 1, 0), 0);
    }

    private static void cuts() {
        Due.sentence("III: cut: its HEIGHT so much less (0 at least)");
        for (int height : new int[] {0, 1, 2, 50, 199, 200}) {
            DeltaRuns d = Due.flat(2, 2, height);
            d.spring(0, 0, 0);
            for (int by : new int[] {0, 1, 2, 49, 50, 51, 199, 200}) {
                Due.plan(d, "year 1 cut 1 1 by " + by);
                Due.due(height + " cut by " + by, d.height(0, 1, 1, 1), Math.max(0, height - by));
                Due.due("as of YEAR 0", d.height(0, 0, 1, 1), height);
                Due.due("no other", d.height(0, 1, 0, 1), height);
            }
        }
    }

    private static void dredges() {
        Due.sentence("III: dredge: it becomes that, if it is higher");
        for (int height : new int[] {0, 1, 50, 199, 200}) {
            DeltaRuns d = Due.flat(2, 2, height);
            d.spring(0, 0, 0);
            for (int to : new int[] {0, 1, 2, 49, 50, 51, 198, 199, 200}) {
                Due.plan(d, "year 1 dredge 1 1 to " + to);
                Due.due(height + " dredged to " + to, d.height(0, 1, 1, 1), height > to ? to : height);
                Due.due("as of YEAR 0", d.height(0, 0, 1, 1), height);
                Due.due("no other", d.height(0, 1, 0, 1), height);
            }
        }
    }

    private static void inTheOrderOfTheText() {
        Due.sentence("III: In its YEAR, in the order of the TEXT");
        DeltaRuns d = Due.flat(2, 2, 50);
        d.spring(0, 0, 0);
        String cut = "year 2 cut 1 1 by 20";
        String dredge = "year 2 dredge 1 1 to 40";
        Due.plan(d, cut + ";" + dredge);
        Due.due("cut, dredge", d.height(0, 2, 1, 1), 30);
        Due.plan(d, dredge + ";" + cut);
        Due.due("dredge, cut", d.height(0, 2, 1, 1), 20);
        Due.plan(d, dredge + "; year 1 cut 1 1 by 20");
        Due.due("an earlier YEAR goes first", d.height(0, 2, 1, 1), 30);
        Due.plan(d, cut + ";" + cut);
        Due.due("twice", d.height(0, 2, 1, 1), 10);
        Due.plan(d, cut + ";" + cut + ";" + cut);
        Due.due("thrice, 0 at least", d.height(0, 2, 1, 1), 0);
        DeltaRuns e = chute();
        Due.plan(e, "year 1 dyke 1 0; year 1 open 1 0");
        Due.due("dyke, open", e.flow(0, 1, 1, 0), 5);
        Due.plan(e, "year 1 open 1 0; year 1 dyke 1 0");
        Due.due("open, dyke", e.flow(0, 1, 1, 0), 0);
        Due.due("and so on", e.flow(0, 2, 1, 0), 0);
        Due.plan(e, "year 1 dyke 1 0; year 1 open 1 0; year 1 dyke 1 0");
        Due.due("dyke, open, dyke", e.flow(0, 1, 1, 0), 0);
    }

    private static void atNoCell() {
        Due.sentence("III: An ACT at no CELL of the LAND does nothing");
        int[][] sizes = {{2, 2}, {6, 6}, {11, 9}, {12, 10}, {12, 2}, {2, 10}};
        for (int[] size : sizes) {
            DeltaRuns d = Due.flat(size[0], size[1], 50);
            d.spring(0, 0, 0);
            for (int x : new int[] {0, size[0] - 1, Math.min(11, size[0]), 11}) {
                for (int y : new int[] {0, size[1] - 1, Math.min(9, size[1]), 9}) {
                    oneAct(d, size[0], size[1], x, y);
                }
            }
        }
        DeltaRuns d = chute();
        Due.plan(d, "year 1 dyke 1 2; year 1 dyke 2 0; year 1 dyke 11 9; year 1 dyke 0 9");
        Due.due("dykes at no CELL", d.flow(0, 1, 1, 0), 5);
        Due.plan(d, "year 1 dyke 1 0; year 1 open 2 0; year 1 open 1 2");
        Due.due("opened at no CELL", d.flow(0, 1, 1, 0), 0);
        Due.plan(d, "year 1 cut 5 5 by 9; year 1 dyke 4 0");
        d.size(6, 6);
        d.level(0);
        d.land(0, 0, 5, 5, 50);
        Due.due("on a greater LAND it works", d.height(0, 1, 5, 5), 41);
        d.size(5, 6);
        Due.due("on a smaller not", d.height(0, 1, 4, 5), 50);
    }

    private static void oneAct(DeltaRuns d, int w, int h, int x, int y) {
        Due.due("plan", Due.plan(d, "year 1 cut " + x + " " + y + " by 9"), 1);
        boolean cell = x < w && y < h;
        int low = 0;
        for (int cx : new int[] {0, w - 1}) {
            for (int cy : new int[] {0, h - 1}) {
                boolean hit = cx == x && cy == y;
                Due.due("cut of " + x + ", " + y + " at " + cx + ", " + cy, d.height(0, 1, cx, cy), hit ? 41 : 50);
            }
        }
        d.level(50);
        low = d.lake(0, 1);
        d.level(0);
        Due.due("cut of " + x + ", " + y + ": CELLS that are lower", low, cell ? 1 : 0);
    }
}
