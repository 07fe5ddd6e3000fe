/** One test or more for each promise of the document, with answers worked out by hand. */
public final class PromiseTests {
    private static final int UNKNOWN = PromisedSnow.UNKNOWN;
    private static final int OUTSIDE = PromisedSnow.OUTSIDE;
    private static final int STATE = PromisedSnow.STATE;
    private static final int FULL = PromisedSnow.FULL;
    private static final int NONE = PromisedSnow.NONE;

    // Four winds, four clouds and five papers: the longest text that is a pass.
    private static final String LONGEST = "PW0W1W2W0C011C122C213C390S0110S1221S2332S3443S5993";

    private static int passed = 0;
    private static int failed = 0;
    private static int wrong = 0;

    private interface Test {
        void run();
    }

    public static void main(String[] args) {
        promise(1, PromiseTests::newObject);
        promise(1, PromiseTests::objectsApart);
        promise(2, PromiseTests::write);
        promise(3, PromiseTests::wipe);
        promise(4, PromiseTests::fault);
        promise(4, PromiseTests::faultOfEachFigure);
        promise(5, PromiseTests::pass);
        promise(5, PromiseTests::passMadeAnew);
        promise(6, PromiseTests::cloud);
        promise(6, PromiseTests::cloudServes);
        promise(7, PromiseTests::paper);
        promise(8, PromiseTests::dayCarries);
        promise(8, PromiseTests::daySettles);
        promise(9, PromiseTests::fall);
        promise(9, PromiseTests::fallRefused);
        promise(10, PromiseTests::puff);
        promise(11, PromiseTests::tear);
        promise(12, PromiseTests::undo);
        promise(12, PromiseTests::undoForgets);
        promise(13, PromiseTests::where);
        promise(14, PromiseTests::umbrellas);
        promise(15, PromiseTests::most);
        promise(16, PromiseTests::lacks);
        promise(17, PromiseTests::puffs);
        promise(18, PromiseTests::judge);
        promise(18, PromiseTests::judgeRefused);
        promise(19, PromiseTests::see);
        promise(20, PromiseTests::unsee);
        promise(21, PromiseTests::began);
        promise(22, PromiseTests::share);
        promise(23, PromiseTests::rests);
        promise(24, PromiseTests::fails);
        promise(25, PromiseTests::seed);
        promise(26, PromiseTests::seasons);
        promise(27, PromiseTests::keep);
        promise(28, PromiseTests::again);
        promise(29, PromiseTests::count);
        System.out.println(passed + " passed, " + failed + " failed");
        if (failed != 0) {
            System.exit(1);
        }
    }

    private static void promise(int number, Test test) {
        int before = wrong;
        try {
            test.run();
        } catch (RuntimeException e) {
            wrong++;
            System.out.println("threw " + e);
        }
        if (wrong == before) {
            passed++;
        } else {
            failed++;
            System.out.println("promise " + number + ": broken");
        }
    }

    private static void due(String what, long got, long want) {
        if (got != want) {
            wrong++;
            System.out.println(what + " answered " + got + ", due is " + want);
        }
    }

    private static PromisedSnow written(String text) {
        PromisedSnow x = new PromisedSnow();
        rewrite(x, text);
        return x;
    }

    private static void rewrite(PromisedSnow x, String text) {
        x.wipe();
        for (int i = 0; i < text.length(); i++) {
            x.write(text.charAt(i));
        }
    }

    private static PromisedSnow told(String text) {
        PromisedSnow x = written(text);
        if (x.pass() < 0) {
            throw new IllegalStateException("no pass: " + text);
        }
        return x;
    }

    private static void days(PromisedSnow x, int n) {
        for (int i = 0; i < n; i++) {
            x.day();
        }
    }

    private static void newObject() {
        PromisedSnow x = new PromisedSnow();
        for (int what = 0; what <= 11; what++) {
            due("count(" + what + ")", x.count(what), 0);
        }
        due("fault()", x.fault(), 0);
        due("pass()", x.pass(), STATE);
        due("undo()", x.undo(), STATE);
        due("again(0)", x.again(0), STATE);
        due("again(1)", x.again(1), STATE);
        due("cloud(0, 0)", x.cloud(0, 0), UNKNOWN);
        due("paper(0, 0)", x.paper(0, 0), UNKNOWN);
        due("began(0)", x.began(0), 63);
        due("puffs()", x.puffs(), 0);
        due("seed(7)", x.seed(7), 0);
        due("UNKNOWN", UNKNOWN, -1);
        due("OUTSIDE", OUTSIDE, -2);
        due("STATE", STATE, -3);
        due("FULL", FULL, -4);
        due("NONE", NONE, -9);
    }

    private static void objectsApart() {
        PromisedSnow x = told("PC011");
        x.see(1, 1);
        PromisedSnow y = new PromisedSnow();
        for (int what = 0; what <= 11; what++) {
            due("count(" + what + ") of another", y.count(what), 0);
        }
    }

    private static void write() {
        PromisedSnow x = new PromisedSnow();
        due("write(0)", x.write(0), 1);
        due("write(255)", x.write(255), 2);
        due("write(256)", x.write(256), OUTSIDE);
        due("write(-1)", x.write(-1), OUTSIDE);
        due("letters", x.count(0), 2);
        for (int i = 3; i <= 52; i++) {
            due("write of letter " + i, x.write('P'), i);
        }
        due("write when full", x.write('P'), FULL);
        due("write outside when full", x.write(256), OUTSIDE);
        due("letters when full", x.count(0), 52);
        x.wipe();
        due("write after wipe", x.write('P'), 1);
        due("fault after wipe", x.fault(), NONE);
    }

    private static void wipe() {
        PromisedSnow x = told("PW1");
        due("wipe()", x.wipe(), 3);
        due("wipe() again", x.wipe(), 0);
        due("letters", x.count(0), 0);
        due("fault", x.fault(), 0);
        due("the pass stays", x.count(1), 1);
        rewrite(x, "P".repeat(52));
        due("wipe() when full", x.wipe(), 52);
    }

    private static void fault() {
        String[] texts = {"", "p", "W", "P", "PP", "PW", "PW0", "PW0W", "PC", "PC0", "PC01", "PC010", "PS011", "PS0110",
            "P0", "PW00", "PW0 ", "Pw0", "PW3W3", "P" + (char) 200,
            "PW0W0W0W0", "PW0W0W0W0W", "PC010C010C010C010C", "PC010C010C010C010W0",
            "PS0110S0110S0110S0110S0110", "PS0110S0110S0110S0110S0110S", LONGEST, LONGEST + "W", LONGEST + "00",
            "PW0W0W0W0C010C010C010C010S0110S0110S0110S0110S011"};
        int[] wants = {0, 0, 0, NONE, 1, 2, NONE, 4, 2, 3, 4, NONE, 5, NONE,
            1, 3, 3, 1, 2, 1,
            NONE, 9, 17, NONE,
            NONE, 26, NONE, 50, 50,
            49};
        for (int i = 0; i < texts.length; i++) {
            due("fault() of " + texts[i], written(texts[i]).fault(), wants[i]);
        }
        PromisedSnow x = written("PWx");
        due("fault()", x.fault(), 2);
        due("fault() twice", x.fault(), 2);
        due("letters stay", x.count(0), 3);
    }

    /** Each figure of each part: from its first allowed number to its last, and one beside them. */
    private static void faultOfEachFigure() {
        String[] parts = {"W0", "C010", "S0110"};
        String[] lows = {"0", "010", "0110"};
        String[] highs = {"2", "593", "5993"};
        for (int part = 0; part < parts.length; part++) {
            for (int at = 0; at < lows[part].length(); at++) {
                for (int letter = 0; letter <= 255; letter++) {
                    StringBuilder text = new StringBuilder("P").append(parts[part]);
                    text.setCharAt(2 + at, (char) letter);
                    boolean fits = letter >= lows[part].charAt(at) && letter <= highs[part].charAt(at);
                    due("fault() of " + text, written(text.toString()).fault(), fits ? NONE : 2 + at);
                }
            }
        }
    }

    private static void pass() {
        due("pass() of P", written("P").pass(), 0);
        due("pass() of the longest", written(LONGEST).pass(), 445);
        due("pass() of parts mixed", written("PS0110W1C010S0110").pass(), 112);
        due("pass() of nothing", new PromisedSnow().pass(), STATE);
        due("pass() of half a part", written("PW").pass(), STATE);
        PromisedSnow x = told("PS1250W1C231S3463W2C342");
        due("first paper's yard", x.paper(0, 0), 1);
        due("second paper's day", x.paper(1, 1), 4);
        due("first cloud's yard", x.cloud(0, 0), 2);
        due("second cloud's kind", x.cloud(1, 2), 2);
        due("wind of day 0", x.count(5), 1);
        x.day();
        due("wind of day 1", x.count(5), 2);
        due("letters stay", x.count(0), 23);
    }

    private static void passMadeAnew() {
        PromisedSnow x = told("PC021S0190S0120");
        x.fall(0, 0);
        x.tear(1);
        x.day();
        x.day();
        x.keep(0);
        x.keep(1);
        x.see(1, 1);
        x.seed(77);
        rewrite(x, "PW");
        due("pass() of a fault", x.pass(), STATE);
        due("day stays", x.count(4), 2);
        due("acts stay", x.count(10), 4);
        due("umbrellas stay", x.count(8), 8);
        due("torn stays", x.count(9), 2);
        due("kept stays", x.again(1), 2);
        x.puff(0, true);
        rewrite(x, "PC021S0190S0120");
        due("pass()", x.pass(), 12);
        due("day", x.count(4), 0);
        due("filled", x.count(7), 0);
        due("umbrellas", x.count(8), 0);
        due("torn", x.count(9), 0);
        due("acts", x.count(10), 0);
        due("undo", x.undo(), STATE);
        due("flakes", x.cloud(0, 1), 2);
        due("again(0)", x.again(0), STATE);
        due("again(1)", x.again(1), STATE);
        due("seen stays", x.count(11), 1);
        due("seed stays", x.seed(0), 77);
        due("letters stay", x.count(0), 15);
    }

    private static void cloud() {
        PromisedSnow x = told("PW0W1C571C080C312C393S5190S5291S5392S3143");
        int[][] wants = {{5, 7, 1, 3, 5, 5}, {0, 8, 0, 8, 0, 0}, {3, 1, 2, 1, 8, 8}, {3, 9, 3, 9, 8, 2 | 4 | 8}};
        for (int c = 0; c < 4; c++) {
            for (int what = 0; what <= 5; what++) {
                due("cloud(" + c + ", " + what + ")", x.cloud(c, what), wants[c][what]);
            }
        }
        due("cloud(4, 0)", x.cloud(4, 0), UNKNOWN);
        due("cloud(-1, 9)", x.cloud(-1, 9), UNKNOWN);
        due("cloud(0, 6)", x.cloud(0, 6), OUTSIDE);
        due("cloud(0, -1)", x.cloud(0, -1), OUTSIDE);
        due("cloud(0, max)", x.cloud(0, Integer.MAX_VALUE), OUTSIDE);
        due("cloud(min, 0)", x.cloud(Integer.MIN_VALUE, 0), UNKNOWN);
    }

    private static void cloudServes() {
        // Wind on each day: cloud 0 is over 0, 1, 2, 3 on the days 0 to 3.
        PromisedSnow x = told("PW1C090S1110S2110S3310S1112");
        due("on the day when it is due", x.cloud(0, 5), 1 | 4);
        due("now", x.cloud(0, 4), 0);
        x.day();
        due("now, a day on", x.cloud(0, 4), 1);
        due("then, a day on", x.cloud(0, 5), 1 | 4);
        x.day();
        due("due the day before", x.cloud(0, 5), 4);
        due("nothing is owed", x.cloud(0, 4), 0);
        // Still on day 0 and 2, on on day 1: over 0, 0, 1, 1.
        x = told("PW0W1C090S0212S1212S1112S0911");
        due("soft needs a still day", x.cloud(0, 5), 1 | 2 | 8);
        x.day();
        due("soft: no fall in wind", x.cloud(0, 4), 8);
        due("soft: not in wind", x.cloud(0, 5), 2 | 8);
        // Over 5 on day 9 for the first time.
        x = told("PW1W0C090S5990");
        due("on the last day", x.cloud(0, 5), 1);
        days(x, 8);
        due("on the last day", x.cloud(0, 5), 1);
        due("not yet", x.cloud(0, 4), 0);
        // Sleet of one flake has none; gilt takes none of sleet.
        x = told("PC011C031S0990S0991");
        due("one flake of sleet", x.cloud(0, 5), 0);
        due("one flake of sleet now", x.cloud(0, 4), 0);
        due("has none", x.cloud(0, 3), 0);
        due("gilt and sleet", x.cloud(1, 5), 1);
        due("gilt and sleet now", x.cloud(1, 4), 1);
        x.puff(1, true);
        due("never over the yard", x.cloud(1, 5), 0);
        x.puff(1, false);
        x.tear(0);
        due("torn", x.cloud(1, 5), 0);
    }

    private static void paper() {
        PromisedSnow x = told("PC092S0210S5191S3982S1993S1913");
        int[][] wants = {{0, 2, 0, 0, 1, 0}, {5, 1, 1, 0, 9, 0}, {3, 9, 2, 0, 8, 0}, {1, 9, 3, 0, 4, 0},
            {1, 9, 3, 0, 1, 0}};
        for (int p = 0; p < 5; p++) {
            for (int what = 0; what <= 5; what++) {
                due("paper(" + p + ", " + what + ")", x.paper(p, what), wants[p][what]);
            }
        }
        x.fall(0, 0);
        due("filled", x.paper(0, 3), 1);
        due("owed", x.paper(0, 4), 0);
        x.tear(3);
        due("torn", x.paper(3, 5), 1);
        due("torn owes nothing", x.paper(3, 4), 0);
        x.day();
        due("on the day when it is due", x.paper(1, 4), 9);
        x.day();
        due("behind that day", x.paper(1, 4), 0);
        due("not torn", x.paper(1, 5), 0);
        due("filled stays", x.paper(0, 3), 1);
        due("paper(5, 0)", x.paper(5, 0), UNKNOWN);
        due("paper(-1, 9)", x.paper(-1, 9), UNKNOWN);
        due("paper(0, 6)", x.paper(0, 6), OUTSIDE);
        due("paper(0, -1)", x.paper(0, -1), OUTSIDE);
        due("paper of fewer", told("PS0110").paper(1, 0), UNKNOWN);
    }

    private static void dayCarries() {
        PromisedSnow x = told("PW1W2W0W1C010C511C012C513");
        int[][] wants = {{1, 0, 0, 1}, {0, 5, 0, 5}, {0, 5, 0, 5}, {1, 0, 0, 1}, {2, 1, 0, 3}};
        for (int d = 0; d < wants.length; d++) {
            due("day()", x.day(), 0);
            due("the day", x.count(4), d + 1);
            for (int c = 0; c < 4; c++) {
                due("yard of " + c + " on " + (d + 1), x.cloud(c, 0), wants[d][c]);
            }
        }
        x = told("PW2C010C113");
        x.day();
        due("back beyond 0", x.cloud(0, 0), 5);
        due("swift back beyond 0", x.cloud(1, 0), 5);
        x = told("PC313");
        x.day();
        due("no winds: still", x.cloud(0, 0), 3);
    }

    private static void daySettles() {
        PromisedSnow x = told("PC091S0150S0243S0230S0910");
        x.fall(0, 0);
        due("day 0", x.day(), 0);
        due("day 1", x.day(), 4);
        due("umbrellas", x.count(8), 4);
        due("owed then", x.paper(0, 4), 0);
        due("day 2: two papers", x.day(), 5);
        due("umbrellas", x.count(8), 9);
        x.tear(3);
        days(x, 6);
        due("day 9: torn", x.day(), 0);
        due("umbrellas", x.count(8), 9);
        due("the day", x.count(4), 10);
        PromisedSnow y = told("PS0910");
        days(y, 9);
        due("due on day 9", y.day(), 1);
        due("never again", y.day(), 0);
        due("a day without a pass", new PromisedSnow().day(), 0);
    }

    private static void fall() {
        PromisedSnow x = told("PC051C020S0230S0250S0261");
        due("fall(0, 0)", x.fall(0, 0), 2);
        due("sleet counts two", x.cloud(0, 1), 3);
        due("fall(1, 0)", x.fall(1, 0), 1);
        due("a plain one counts one", x.cloud(1, 1), 1);
        due("filled", x.paper(0, 3), 2);
        due("fall(0, 1)", x.fall(0, 1), 4);
        due("one flake of sleet", x.fall(0, 1), STATE);
        due("its flake stays", x.cloud(0, 1), 1);
        due("fall(1, 2)", x.fall(1, 2), 5);
        due("no flake", x.fall(1, 2), STATE);
        due("acts", x.count(10), 4);
    }

    private static void fallRefused() {
        PromisedSnow x = told("PW0W1C091C190C090S0991S0110S0992S0113");
        due("fall(3, 0)", x.fall(3, 0), UNKNOWN);
        due("fall(0, 4)", x.fall(0, 4), UNKNOWN);
        due("fall(-1, 0)", x.fall(-1, 0), UNKNOWN);
        due("fall(0, -1)", x.fall(0, -1), UNKNOWN);
        due("sleet on gilt", x.fall(0, 0), STATE);
        due("over another yard", x.fall(1, 0), STATE);
        due("soft in still air", x.fall(0, 2), 8);
        due("all is filled then", x.fall(0, 1), 0);
        due("nothing is owed", x.fall(0, 1), STATE);
        due("halved of one", x.fall(2, 3), 0);
        due("nothing is owed", x.fall(2, 3), STATE);
        x.tear(1);
        due("torn", x.fall(0, 1), STATE);
        x.puff(1, false);
        x.day();
        due("soft in wind", x.fall(1, 2), STATE);
        due("gilt in wind", x.fall(1, 0), 8);
        due("acts", x.count(10), 7);
        x = told("PC090S0190");
        x.day();
        due("on the day when it is due", x.fall(0, 0), 8);
        x.day();
        due("behind it", x.fall(0, 0), STATE);
    }

    private static void puff() {
        PromisedSnow x = told("PC090C512");
        due("back", x.puff(0, false), 5);
        due("on", x.puff(0, true), 0);
        due("on", x.puff(0, true), 1);
        due("a still one, too", x.puff(1, true), 0);
        due("yard", x.cloud(0, 0), 1);
        due("acts", x.count(10), 4);
        due("puff(2)", x.puff(2, true), UNKNOWN);
        due("puff(-1)", x.puff(-1, true), UNKNOWN);
        due("acts", x.count(10), 4);
    }

    private static void tear() {
        PromisedSnow x = told("PC090S0950S0143");
        x.fall(0, 0);
        due("tear(0)", x.tear(0), 4);
        due("torn", x.count(9), 1);
        due("what is filled is lost", x.paper(0, 3), 0);
        due("nothing is owed", x.paper(0, 4), 0);
        due("its flake is gone", x.cloud(0, 1), 8);
        due("tear(0) again", x.tear(0), STATE);
        due("acts", x.count(10), 2);
        days(x, 2);
        due("umbrellas", x.count(8), 2);
        due("due before", x.tear(1), 0);
        due("torn", x.count(9), 3);
        due("tear(2)", x.tear(2), UNKNOWN);
        due("tear(-1)", x.tear(-1), UNKNOWN);
    }

    private static void undo() {
        PromisedSnow x = told("PW1C091S0150");
        x.fall(0, 0);
        x.puff(0, true);
        x.tear(0);
        days(x, 2);
        due("undo a day", x.undo(), 4);
        due("the day", x.count(4), 1);
        due("yard", x.cloud(0, 0), 2);
        due("undo a day", x.undo(), 3);
        due("yard", x.cloud(0, 0), 1);
        due("undo torn", x.undo(), 2);
        due("torn", x.count(9), 0);
        due("filled", x.paper(0, 3), 1);
        due("undo puffed", x.undo(), 1);
        due("yard", x.cloud(0, 0), 0);
        due("undo fall", x.undo(), 0);
        due("flakes", x.cloud(0, 1), 9);
        due("filled", x.paper(0, 3), 0);
        due("undo nothing", x.undo(), STATE);
        days(x, 2);
        due("umbrellas", x.count(8), 5);
        due("undo the settling", x.undo(), 1);
        due("umbrellas", x.count(8), 0);
        due("owed", x.paper(0, 4), 5);
    }

    private static void undoForgets() {
        PromisedSnow x = told("PC010");
        days(x, 14);
        due("acts", x.count(10), 14);
        x.day();
        due("acts", x.count(10), 14);
        for (int left = 13; left >= 0; left--) {
            due("undo", x.undo(), left);
            due("the day", x.count(4), left + 1);
        }
        due("undo nothing", x.undo(), STATE);
        days(x, 40);
        x.undo();
        x.puff(0, true);
        x.undo();
        due("the day", x.count(4), 40);
        due("acts", x.count(10), 13);
    }

    private static void where() {
        PromisedSnow x = told("PW1W1W0C010C511C312C413");
        due("where(0, 0)", x.where(0, 0), 0);
        due("where(0, 2)", x.where(0, 2), 2);
        due("where(0, 3)", x.where(0, 3), 2);
        due("where(0, 20)", x.where(0, 20), 2);
        due("where(1, 1)", x.where(1, 1), 0);
        due("where(2, 20)", x.where(2, 20), 3);
        due("where(3, 1)", x.where(3, 1), 0);
        due("where(3, 5)", x.where(3, 5), 0);
        x.day();
        due("from the day on", x.where(0, 2), 2);
        due("nothing is changed", x.cloud(0, 0), 1);
        due("where(0, 21)", x.where(0, 21), OUTSIDE);
        due("where(0, -1)", x.where(0, -1), OUTSIDE);
        due("where(4, 21)", x.where(4, 21), UNKNOWN);
        due("where(-1, 0)", x.where(-1, 0), UNKNOWN);
    }

    private static void umbrellas() {
        PromisedSnow x = told("PC090S0150S0343S0910");
        due("umbrellas(0)", x.umbrellas(0), 0);
        due("umbrellas(1)", x.umbrellas(1), 0);
        due("umbrellas(2)", x.umbrellas(2), 5);
        due("umbrellas(3)", x.umbrellas(3), 5);
        due("umbrellas(4)", x.umbrellas(4), 7);
        due("umbrellas(9)", x.umbrellas(9), 7);
        due("umbrellas(10)", x.umbrellas(10), 8);
        due("umbrellas(20)", x.umbrellas(20), 8);
        x.fall(0, 0);
        due("umbrellas(2)", x.umbrellas(2), 4);
        x.tear(2);
        days(x, 2);
        due("umbrellas(0)", x.umbrellas(0), 4);
        due("umbrellas(2)", x.umbrellas(2), 6);
        due("umbrellas(20)", x.umbrellas(20), 6);
        due("nothing is changed", x.count(8), 4);
        due("umbrellas(21)", x.umbrellas(21), OUTSIDE);
        due("umbrellas(-1)", x.umbrellas(-1), OUTSIDE);
        due("without a pass", new PromisedSnow().umbrellas(20), 0);
    }

    private static void most() {
        // Cloud 0 has 4 for paper 0, cloud 1 (sleet of 5) has 2 for paper 1, but none for paper 2; cloud 2 has none.
        PromisedSnow x = told("PC040C151C390S0990S1930S1911");
        due("two yards", x.most(), 4 + 2);
        due("without a pass", new PromisedSnow().most(), 0);
        // Both clouds can serve paper 0, one alone can serve paper 1: that one must be left for it.
        x = told("PW1C020C112S1920S0120");
        due("most", x.most(), 1 + 2);
        x = told("PC090C090S0930S0940");
        due("no more than is owed", x.most(), 7);
        x.fall(0, 0);
        due("what is owed yet", x.most(), 6);
        x.tear(1);
        due("torn", x.most(), 2);
        due("no cloud", told("PS0990").most(), 0);
        due("no paper", told("PC090").most(), 0);
    }

    private static void lacks() {
        PromisedSnow x = told("PC020C151C390S0990S1930S1911S3943");
        due("lacks(0)", x.lacks(0), 9 - 2);
        due("lacks(1)", x.lacks(1), 3 - 2);
        due("gilt", x.lacks(2), 1);
        due("more than is owed", x.lacks(3), 0);
        x.fall(0, 0);
        due("lacks(0)", x.lacks(0), 8 - 1);
        x.tear(0);
        due("torn", x.lacks(0), 0);
        due("lacks(4)", x.lacks(4), UNKNOWN);
        due("lacks(-1)", x.lacks(-1), UNKNOWN);
        // Served ahead of all others: both clouds are its own.
        x = told("PC020C020S0940S0990");
        due("two clouds", x.lacks(0), 0);
        due("two clouds", x.lacks(1), 5);
    }

    private static void puffs() {
        due("nothing is owed", told("PC010").puffs(), 0);
        due("no puff", told("PC090S0990").puffs(), 0);
        due("back", told("PC192S0990").puffs(), 1);
        due("on over the ring", told("PC492S0990").puffs(), 2);
        due("three on", told("PC392S0990").puffs(), 3);
        due("two clouds", told("PC192C292S0990S0990").puffs(), 3);
        due("four are too many", told("PC292C292S0990S0990").puffs(), NONE);
        due("too few flakes", told("PC082S0990").puffs(), NONE);
        due("no cloud", told("PS0990").puffs(), NONE);
        // The wind brings it there in 2 days, but the paper is due in 1.
        due("by wind", told("PW1C090S2110").puffs(), 1);
        due("by wind, no puff", told("PW1C090S2210").puffs(), 0);
        PromisedSnow x = told("PC392S0990");
        x.puffs();
        due("nothing is changed", x.cloud(0, 0), 3);
        due("no act", x.count(10), 0);
    }

    private static void judge() {
        PromisedSnow x = told("PW1C090C191S0220S1131S2912");
        due("a day", x.judge(1, 0), NONE);
        due("four days", x.judge(4, 0), NONE);
        due("falls", x.judge(1, 100), NONE);
        due("falls elsewhere", x.judge(1, 101), 0);
        due("sleet on gilt", x.judge(1, 111), 0);
        due("falls twice", x.judge(2, 100100), NONE);
        due("falls thrice", x.judge(3, 100100100), 2);
        due("a day, then falls", x.judge(2, 101), NONE);
        due("a day, then falls at home", x.judge(2, 100), 1);
        due("puffed on, then falls", x.judge(2, 201101), NONE);
        due("puffed back, then falls", x.judge(2, 200101), 1);
        due("puffed otherwise", x.judge(1, 202), 0);
        due("puffed unknown", x.judge(1, 220), 0);
        due("torn", x.judge(1, 302), NONE);
        due("torn", x.judge(1, 301), NONE);
        due("torn twice", x.judge(2, 302302), 1);
        due("torn unknown", x.judge(1, 303), 0);
        due("torn with a figure more", x.judge(1, 312), 0);
        due("torn, then falls", x.judge(2, 300100), 1);
        due("owed", x.judge(1, 402), NONE);
        due("owed more", x.judge(1, 401), 0);
        due("owed by unknown", x.judge(1, 439), 0);
        due("filled, then owed", x.judge(3, 100100400L), NONE);
        due("a day with a figure more", x.judge(1, 1), 0);
        due("a day with a figure more", x.judge(1, 10), 0);
        due("no doing", x.judge(1, 500), 0);
        due("no doing", x.judge(1, 999), 0);
        due("falls of unknown", x.judge(1, 120), 0);
        due("falls on unknown", x.judge(1, 103), 0);
        due("the last of four", x.judge(4, 101302302L), 3);
        due("settled, then owed", x.judge(4, 410), NONE);
        due("nothing is changed", x.count(4) + x.count(7) + x.count(8) + x.count(9) + x.count(10), 0);
        due("flakes stay", x.cloud(0, 1), 9);
    }

    private static void judgeRefused() {
        PromisedSnow x = told("PC090S0990");
        due("judge(0, 0)", x.judge(0, 0), OUTSIDE);
        due("judge(5, 0)", x.judge(5, 0), OUTSIDE);
        due("judge(1, -1)", x.judge(1, -1), OUTSIDE);
        due("judge(1, 999)", x.judge(1, 999), 0);
        due("judge(1, 1000)", x.judge(1, 1000), OUTSIDE);
        due("judge(3, 999999999)", x.judge(3, 999999999L), 0);
        due("judge(3, 1000000000)", x.judge(3, 1000000000L), OUTSIDE);
        due("judge(4, 999999999999)", x.judge(4, 999999999999L), 0);
        due("judge(4, 1000000000000)", x.judge(4, 1000000000000L), OUTSIDE);
        due("judge(4, max)", x.judge(4, Long.MAX_VALUE), OUTSIDE);
        due("judge(4, min)", x.judge(4, Long.MIN_VALUE), OUTSIDE);
        due("judge(max, 0)", x.judge(Integer.MAX_VALUE, 0), OUTSIDE);
    }

    private static void see() {
        PromisedSnow x = new PromisedSnow();
        due("see(0, 0)", x.see(0, 0), 1);
        due("see(5, 9)", x.see(5, 9), 2);
        due("see(6, 0)", x.see(6, 0), UNKNOWN);
        due("see(-1, 0)", x.see(-1, 0), UNKNOWN);
        due("see(6, 10)", x.see(6, 10), UNKNOWN);
        due("see(0, 10)", x.see(0, 10), OUTSIDE);
        due("see(0, -1)", x.see(0, -1), OUTSIDE);
        due("seen", x.count(11), 2);
        for (int i = 3; i <= 6; i++) {
            due("see(0, 0)", x.see(0, 0), i);
        }
        due("see when full", x.see(0, 0), FULL);
        due("see outside when full", x.see(0, 10), OUTSIDE);
        due("see unknown when full", x.see(6, 0), UNKNOWN);
        due("seen", x.count(11), 6);
    }

    private static void unsee() {
        PromisedSnow x = new PromisedSnow();
        due("unsee() of none", x.unsee(), 0);
        x.see(1, 1);
        x.see(2, 2);
        due("began", x.began(2), 0);
        due("unsee()", x.unsee(), 2);
        due("seen", x.count(11), 0);
        due("began", x.began(2), 63);
        due("see", x.see(3, 3), 1);
        due("began", x.began(2), 8);
    }

    private static void began() {
        PromisedSnow x = told("PW1W1W2");
        due("nothing is seen", x.began(3), 63);
        x.see(1, 2);
        due("plain", x.began(0), 1 << 5);
        due("sleet", x.began(1), 1 << 5);
        due("still", x.began(2), 1 << 1);
        due("swift", x.began(3), 1 << 3);
        x.see(0, 3);
        due("plain, seen twice", x.began(0), 1 << 5);
        due("still, seen twice", x.began(2), 0);
        due("swift, seen twice", x.began(3), 0);
        x.day();
        x.puff(0, true);
        due("from day 0 on", x.began(0), 1 << 5);
        rewrite(x, "P");
        x.pass();
        due("of the pass", x.began(0), 0);
        due("began(4)", x.began(4), OUTSIDE);
        due("began(-1)", x.began(-1), OUTSIDE);
        x.unsee();
        rewrite(x, "PW2");
        x.pass();
        x.see(4, 9);
        due("nine days back", x.began(0), 1 << 1);
    }

    private static void share() {
        // 3, 3 and 0 flakes for one paper of 4: alone 3, together 4.
        PromisedSnow x = told("PC032C032C330S0940");
        due("upper", x.share(0, true), 2);
        due("lower", x.share(0, false), 1);
        due("of none, upper", x.share(2, true), 0);
        due("of none, lower", x.share(2, false), 1);
        // 2, 3 and 1 flakes for one of 4: by the six orders cloud 0 brings 2, 2, 1, 0, 2, 0.
        x = told("PC022C032C012S0940");
        due("upper", x.share(0, true), 7);
        due("lower", x.share(0, false), 6);
        due("upper", x.share(1, true), 13);
        due("lower", x.share(1, false), 6);
        due("upper", x.share(2, true), 2);
        due("lower", x.share(2, false), 3);
        due("share(3)", x.share(3, true), UNKNOWN);
        due("share(-1)", x.share(-1, false), UNKNOWN);
        due("one cloud, upper", told("PC091S0990").share(0, true), 4);
        due("one cloud, lower", told("PC091S0990").share(0, false), 1);
        x = told("PC010C020C030C040S0950");
        due("four clouds, upper", x.share(0, true), 1);
        due("four clouds, lower", x.share(0, false), 2);
        due("four clouds, upper", x.share(3, true), 2);
        due("four clouds, lower", x.share(3, false), 1);
    }

    private static void rests() {
        // Nothing is owed, both over 0: one of them goes, the other one stays: 4 pairs.
        PromisedSnow x = told("PC090C090");
        due("how many", x.rests(0, 1, 0), 4);
        due("the first", x.rests(0, 1, 1), 2);
        // Apart already: none goes.
        x = told("PC090C390");
        due("how many", x.rests(0, 1, 0), 1);
        due("the first", x.rests(0, 1, 1), 22);
        // Each has more over 0 than the puff costs; cloud 0 is there, cloud 1 comes from 1.
        x = told("PC092C192S0990");
        due("how many", x.rests(0, 1, 0), 1);
        due("the first", x.rests(0, 1, 1), 20);
        due("the other way", x.rests(1, 0, 1), 2);
        // Sleet of 3 has one: a puff costs as much as it brings, and the other one is there.
        x = told("PC092C131S0990");
        due("how many", x.rests(0, 1, 0), 1);
        due("the first", x.rests(0, 1, 1), 22);
        // A puff on brings cloud 0 all that it has.
        x = told("PC592C292S0990");
        due("how many", x.rests(0, 1, 0), 1);
        due("the first", x.rests(0, 1, 1), 12);
        // Two more, less a puff, are as much as the flake that is owed here.
        x = told("PC092C092S0910");
        due("how many", x.rests(0, 1, 0), 5);
        due("the first", x.rests(0, 1, 1), 2);
        due("both are one", x.rests(0, 0, 0), OUTSIDE);
        due("what", x.rests(0, 1, 2), OUTSIDE);
        due("what", x.rests(0, 1, -1), OUTSIDE);
        due("one unknown", x.rests(2, 0, 2), UNKNOWN);
        due("other unknown", x.rests(0, 2, 0), UNKNOWN);
        due("both unknown and one", x.rests(4, 4, 0), UNKNOWN);
        due("both unknown and one", x.rests(-1, -1, 9), UNKNOWN);
        due("nothing is changed", x.cloud(1, 0) + x.count(10), 0);
    }

    private static void fails() {
        PromisedSnow x = told("PW1C010C013C012");
        due("stays, upper", x.fails(0, 0, 2, 5, true), 1);
        due("stays, lower", x.fails(0, 0, 2, 5, false), 4);
        due("one day, upper", x.fails(0, 1, 2, 5, true), 1);
        due("one day, lower", x.fails(0, 1, 2, 5, false), 2);
        due("three tenths", x.fails(0, 1, 1, 3, true), 7);
        due("three tenths", x.fails(0, 1, 1, 3, false), 10);
        due("never fails", x.fails(0, 0, 6, 0, true), 1);
        due("never fails", x.fails(0, 0, 6, 0, false), 1);
        due("always fails", x.fails(0, 0, 6, 10, true), 1);
        due("always fails", x.fails(0, 1, 6, 10, true), 0);
        due("always fails", x.fails(0, 1, 6, 10, false), 1);
        due("six days: none or all fail", x.fails(0, 0, 6, 1, true), 265721);
        due("six days: none or all fail", x.fails(0, 0, 6, 1, false), 500000);
        due("swift", x.fails(1, 2, 1, 3, true), 7);
        due("swift not", x.fails(1, 1, 1, 3, true), 0);
        due("still", x.fails(2, 0, 6, 7, true), 1);
        due("nothing is changed", x.cloud(0, 0), 0);
        x = told("PW0W2C010");
        x.day();
        due("from now on", x.fails(0, 5, 1, 4, true), 3);
        due("from now on", x.fails(0, 5, 1, 4, false), 5);
        due("n = 0", x.fails(0, 0, 0, 0, true), OUTSIDE);
        due("n = 7", x.fails(0, 0, 7, 0, true), OUTSIDE);
        due("x = -1", x.fails(0, 0, 1, -1, true), OUTSIDE);
        due("x = 11", x.fails(0, 0, 1, 11, false), OUTSIDE);
        due("cloud", x.fails(1, 0, 0, 0, true), UNKNOWN);
        due("yard", x.fails(0, 6, 0, 0, true), UNKNOWN);
        due("yard", x.fails(0, -1, 1, 0, false), UNKNOWN);
    }

    private static void seed() {
        PromisedSnow x = new PromisedSnow();
        due("seed", x.seed(Long.MIN_VALUE), 0);
        due("seed", x.seed(Long.MAX_VALUE), Long.MIN_VALUE);
        due("seed", x.seed(-1), Long.MAX_VALUE);
        due("seed", x.seed(0), -1);
        due("seed", x.seed(0), 0);
    }

    private static void seasons() {
        PromisedSnow x = new PromisedSnow();
        due("seasons(0)", x.seasons(0), OUTSIDE);
        due("seasons(31)", x.seasons(31), OUTSIDE);
        due("the seed stays", x.seed(0), 0);
        due("seasons(1)", x.seasons(1), 0);
        due("the seed goes on", x.seed(0), 1442695040888963407L);
        due("seasons(2)", x.seasons(2), 0);
        due("the seed goes on", x.seed(0), 1442695040888963407L * 6364136223846793005L + 1442695040888963407L);
        due("seasons(30)", x.seasons(30), 0);
        // The lots are chosen by their seeds: what is drawn is worked out ahead.
        String text = "PC090C090C090C090S0990S0990S0990S0990S0930";
        for (int lot = 0; lot < 28; lot++) {
            x = told(text);
            x.day();
            x.seed(seedThatDraws(lot));
            due("a season that draws " + lot, x.seasons(1), lot < 20 ? 1 : 0);
            due("nothing is changed", x.count(7) + x.count(8), 0);
            due("no act", x.count(10), 1);
        }
        for (int lot = 0; lot < 28; lot++) {
            x = told("PS0190S0120");
            x.day();
            x.seed(seedThatDraws(lot));
            due("a day that draws " + lot, x.seasons(1), lot < 20 ? 0 : 11);
        }
        // Cloud 2 falls on paper 3, and on no other.
        x = told("PC110C110C010C110S1910S1910S1910S0910S1910");
        for (int lot = 0; lot < 20; lot++) {
            x.seed(seedThatDraws(lot));
            due("a fall that draws " + lot, x.seasons(1), lot == 13 || lot / 5 != 2 && lot % 5 != 3 ? 1 : 0);
        }
        // What is filled counts again each time.
        x = told("PC090C090C090C090S0990S0990S0990S0990S0930");
        x.seed(5);
        due("many seasons", x.seasons(30), playedByHand(5, 30));
    }

    private static long seedThatDraws(int lot) {
        for (long v = 0; ; v++) {
            long next = v * 6364136223846793005L + 1442695040888963407L;
            if ((next >>> 33) % 28 == lot) {
                return v;
            }
        }
    }

    /** Four plain clouds of 9 and five papers over one yard, due on day 9, of 9, 9, 9, 9 and 3, no winds. */
    private static long playedByHand(long seed, int m) {
        int[] flakes = {9, 9, 9, 9};
        int[] owed = {9, 9, 9, 9, 3};
        long v = seed;
        int day = 0;
        int umbrellas = 0;
        long sum = 0;
        for (int i = 0; i < m; i++) {
            v = v * 6364136223846793005L + 1442695040888963407L;
            int lot = (int) ((v >>> 33) % 28);
            if (lot >= 20) {
                if (day == 9) {
                    umbrellas = owed[0] + owed[1] + owed[2] + owed[3] + owed[4];
                }
                day++;
            } else if (day <= 9 && flakes[lot / 5] > 0 && owed[lot % 5] > 0) {
                flakes[lot / 5]--;
                owed[lot % 5]--;
            }
            sum += 39 - owed[0] - owed[1] - owed[2] - owed[3] - owed[4] + umbrellas;
        }
        return sum;
    }

    private static void keep() {
        PromisedSnow x = new PromisedSnow();
        due("keep(0)", x.keep(0), 0);
        due("keep(2)", x.keep(2), UNKNOWN);
        due("keep(-1)", x.keep(-1), UNKNOWN);
        due("again(1)", x.again(1), STATE);
        x = told("PC090S0990");
        days(x, 3);
        due("keep(1)", x.keep(1), 3);
        due("acts stay", x.count(10), 3);
        x.day();
        due("keep(1) anew", x.keep(1), 4);
        x.day();
        due("again(1)", x.again(1), 4);
    }

    private static void again() {
        PromisedSnow x = told("PW1C090S0190S0140");
        x.fall(0, 0);
        x.keep(0);
        x.tear(1);
        days(x, 2);
        x.keep(1);
        x.seed(9);
        x.see(1, 1);
        x.puff(0, true);
        due("again(0)", x.again(0), 0);
        due("yard", x.cloud(0, 0), 0);
        due("flakes", x.cloud(0, 1), 8);
        due("filled", x.count(7), 1);
        due("torn", x.count(9), 0);
        due("umbrellas", x.count(8), 0);
        due("the day", x.count(4), 0);
        due("acts", x.count(10), 0);
        due("undo", x.undo(), STATE);
        due("seen stays", x.count(11), 1);
        due("seed stays", x.seed(9), 9);
        x.fall(0, 0);
        due("again(1)", x.again(1), 2);
        due("yard", x.cloud(0, 0), 2);
        due("torn", x.count(9), 2);
        due("umbrellas", x.count(8), 8);
        due("filled", x.count(7), 1);
        due("again(0), twice", x.again(0), 0);
        due("flakes", x.cloud(0, 1), 8);
        due("again(2)", x.again(2), UNKNOWN);
        due("again(-1)", x.again(-1), UNKNOWN);
        due("none kept", told("P").again(0), STATE);
    }

    private static void count() {
        PromisedSnow x = told("PW2W0W1C090C190S0190S0140S1920");
        x.fall(0, 0);
        x.fall(0, 0);
        x.tear(1);
        x.fall(1, 2);
        days(x, 2);
        x.see(2, 2);
        int[] wants = {30, 3, 2, 3, 2, 1, 1, 3, 7, 2, 6, 1};
        for (int what = 0; what < wants.length; what++) {
            due("count(" + what + ")", x.count(what), wants[what]);
        }
        due("owed of two", told("PS0140S1993").count(6), 8);
        x.tear(2);
        due("torn", x.count(9), 6);
        due("owed", x.count(6), 0);
        due("filled", x.count(7), 2);
        due("count(12)", x.count(12), OUTSIDE);
        due("count(-1)", x.count(-1), OUTSIDE);
    }
}
