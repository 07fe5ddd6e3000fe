/** Boundary cases of promises 8 to 12: days, falls, bellows, papers torn, and what is undone. */
public final class ActBoundsTests {
    private static final int UNKNOWN = Bounds.UNKNOWN, STATE = Bounds.STATE;
    private static final int[] NO_CLOUDS = {Bounds.LEAST, -1, 4, 5, Bounds.GREATEST};
    private static final int[] NO_PAPERS = {Bounds.LEAST, -1, 5, 6, Bounds.GREATEST};

    public static void main(String[] args) {
        Bounds.sentence(8, "YARDS are 0 to 5 in a ring (0 is beside 5).", ActBoundsTests::daysRoundTheRing);
        Bounds.sentence(8, "THE WIND of a DAY is that WIND which is left of it by how many there are (none: still).",
            ActBoundsTests::windsByDays);
        Bounds.sentence(8, "each CLOUD goes by THE WIND of THE DAY 1 YARD (STILL: none; SWIFT: 2); THE DAY is one more",
            ActBoundsTests::goesByTheWindOfTheDay);
        Bounds.sentence(8, "of each PAPER that was due on the DAY before what is OWED yet is settled: as many "
            + "UMBRELLAS more (then nothing is OWED any more).", ActBoundsTests::settles);
        Bounds.sentence(8, "A DAY: how many UMBRELLAS more.", ActBoundsTests::mostAndFewestUmbrellas);
        Bounds.sentence(9, "FALLS: what is OWED then. UNKNOWN: both; STATE: it can not.", ActBoundsTests::fall);
        Bounds.sentence(9, "if it is over its YARD, something is OWED, and it has a FLAKE (SLEET: 2): that is less "
            + "(SLEET: 2), 1 more is FILLED", ActBoundsTests::lastFlake);
        Bounds.sentence(9, "GILT takes none of SLEET; SOFT only if THE WIND of THE DAY is still.",
            ActBoundsTests::giltAndSoft);
        Bounds.sentence(10, "PUFFED: by bellows a CLOUD is over the next YARD, on or back.", ActBoundsTests::puff);
        Bounds.sentence(10, "PUFFED: the YARD then. UNKNOWN.", ActBoundsTests::puffRefused);
        Bounds.sentence(11, "(its buyer has it no more; what is FILLED is lost: nothing is FILLED then)",
            ActBoundsTests::tearLoses);
        Bounds.sentence(11, "TORN: what was OWED. UNKNOWN; STATE: it is TORN.", ActBoundsTests::tear);
        Bounds.sentence(12, "The last ACT is undone: how many are left. STATE: there is none.", ActBoundsTests::undo);
        Bounds.sentence(12, "the last one can be undone.", ActBoundsTests::lastOnly);
        Bounds.sentence(12, "(14 at most; of more the first one is forgotten)", ActBoundsTests::fourteenActs);
        Bounds.sentence(12, "ACTS (DAYS, FALLS, PUFFED, TORN) are a row", ActBoundsTests::onlyThese);
        Bounds.conclude();
    }

    private static void yards(PromisedSnow x, String when, int... wants) {
        for (int c = 0; c < wants.length; c++) {
            Bounds.due("yard of cloud " + c + ", " + when, x.cloud(c, 0), wants[c]);
        }
    }

    private static void daysRoundTheRing() {
        PromisedSnow x = Bounds.told("PW1C510C413C512C513");
        x.day();
        yards(x, "on", 0, 0, 5, 1);
        x = Bounds.told("PW1C410C313C411C311");
        x.day();
        yards(x, "on, not yet round", 5, 5, 5, 4);
        x = Bounds.told("PW2C010C113C012C013");
        x.day();
        yards(x, "back", 5, 5, 0, 4);
        x = Bounds.told("PW2C110C213C111C211");
        x.day();
        yards(x, "back, not yet round", 0, 0, 0, 1);
        x = Bounds.told("PW1C010C513");
        int[] plain = {1, 2, 3, 4, 5, 0, 1};
        int[] swift = {1, 3, 5, 1, 3, 5, 1};
        for (int d = 0; d < 7; d++) {
            x.day();
            yards(x, "on, round and round", plain[d], swift[d]);
        }
        x = Bounds.told("PW2C510C013");
        plain = new int[] {4, 3, 2, 1, 0, 5, 4};
        swift = new int[] {4, 2, 0, 4, 2, 0, 4};
        for (int d = 0; d < 7; d++) {
            x.day();
            yards(x, "back, round and round", plain[d], swift[d]);
        }
    }

    private static void windsByDays() {
        String[] texts = {"P", "PW1", "PW1W2", "PW1W2W0", "PW1W2W0W0"};
        String[] wants = {"0000000000", "1111111111", "1212121212", "1201201201", "1200120012"};
        for (int i = 0; i < texts.length; i++) {
            PromisedSnow x = Bounds.told(texts[i]);
            for (int d = 0; d < 10; d++) {
                Bounds.due("wind of day " + d + " of " + texts[i], x.count(5), wants[i].charAt(d) - '0');
                x.day();
            }
        }
        PromisedSnow x = Bounds.told("PC513C010");
        Bounds.days(x, 3);
        yards(x, "no winds", 5, 0);
    }

    private static void goesByTheWindOfTheDay() {
        PromisedSnow x = Bounds.told("PW1W0W2C010C011C012C013");
        int[][] wants = {{1, 1, 0, 2}, {1, 1, 0, 2}, {0, 0, 0, 0}, {1, 1, 0, 2}};
        for (int d = 0; d < wants.length; d++) {
            Bounds.due("day()", x.day(), 0);
            Bounds.due("the day", x.count(4), d + 1);
            yards(x, "on day " + (d + 1), wants[d]);
        }
        x = new PromisedSnow();
        x.day();
        Bounds.due("a day without a pass", x.count(4), 1);
    }

    private static void settles() {
        PromisedSnow x = Bounds.told("PC090S0190S0190S0993S0910S0920");
        Bounds.falls(x, 0, 0, 2);
        Bounds.due("day 0, nothing is due on it", x.day(), 0);
        x.fall(0, 0);
        Bounds.due("owed on the day when it is due", x.count(6), 6 + 9 + 4 + 1 + 2);
        Bounds.due("day 1, two are due on it", x.day(), 6 + 9);
        Bounds.due("owed behind it", x.count(6), 4 + 1 + 2);
        Bounds.due("filled stays", x.paper(0, 3), 3);
        for (int d = 2; d < 9; d++) {
            Bounds.due("day " + d, x.day(), 0);
        }
        x.tear(4);
        x.fall(0, 3);
        Bounds.due("day 9: halved, all filled, torn", x.day(), 4);
        Bounds.due("the day", x.count(4), 10);
        Bounds.due("owed", x.count(6), 0);
        Bounds.due("umbrellas", x.count(8), 15 + 4);
        Bounds.due("day 10", x.day(), 0);
        Bounds.due("umbrellas stay", x.count(8), 19);
        Bounds.due("torn afterwards", x.tear(0), 0);
        Bounds.due("umbrellas stay", x.count(8), 19);
    }

    private static void mostAndFewestUmbrellas() {
        PromisedSnow x = Bounds.told("PS0190S1990S2991S3992S4990");
        x.day();
        Bounds.due("day 1", x.day(), 9);
        Bounds.days(x, 7);
        Bounds.due("day 9", x.day(), 36);
        Bounds.due("umbrellas", x.count(8), 45);
        x = Bounds.told("PS0990S0990S0990S0990S0990");
        Bounds.days(x, 9);
        Bounds.due("none yet", x.count(8), 0);
        Bounds.due("all at once", x.day(), 45);
        x = Bounds.told("PS0193");
        x.tear(0);
        x.day();
        Bounds.due("torn", x.day(), 0);
        Bounds.due("halved of one", Bounds.told("PS0113").umbrellas(2), 1);
        x = Bounds.told("PC090");
        Bounds.due("no papers", x.day(), 0);
    }

    private static void fall() {
        PromisedSnow x = Bounds.told("PC010C090C090C020S0910S0910S0910S0910S0920");
        Bounds.due("fall(0, 0)", x.fall(0, 0), 0);
        Bounds.due("fall(3, 4)", x.fall(3, 4), 1);
        Bounds.due("fall(3, 4)", x.fall(3, 4), 0);
        for (int c : NO_CLOUDS) {
            for (int p : new int[] {-1, 0, 4, 5}) {
                Bounds.due("fall(" + c + ", " + p + ")", x.fall(c, p), UNKNOWN);
            }
            Bounds.leavesAll(Bounds::busy, "fall(" + c + ", 0)", y -> y.fall(c, 0), UNKNOWN);
        }
        for (int p : NO_PAPERS) {
            for (int c : new int[] {0, 3}) {
                Bounds.due("fall(" + c + ", " + p + ")", x.fall(c, p), UNKNOWN);
            }
            Bounds.leavesAll(Bounds::busy, "fall(0, " + p + ")", y -> y.fall(0, p), UNKNOWN);
        }
        Bounds.due("acts", x.count(10), 3);
        PromisedSnow one = Bounds.told("PC090S0990");
        Bounds.due("fall(0, 0) of one", one.fall(0, 0), 8);
        Bounds.due("fall(1, 0) of one", one.fall(1, 0), UNKNOWN);
        Bounds.due("fall(0, 1) of one", one.fall(0, 1), UNKNOWN);
        Bounds.due("no clouds", Bounds.told("PS0990").fall(0, 0), UNKNOWN);
        Bounds.due("no papers", Bounds.told("PC090").fall(0, 0), UNKNOWN);
        Bounds.leavesAll(() -> Bounds.told("PC590C190S0990"), "beside it, back", y -> y.fall(0, 0), STATE);
        Bounds.leavesAll(() -> Bounds.told("PC590C190S0990"), "beside it, on", y -> y.fall(1, 0), STATE);
        Bounds.leavesAll(ActBoundsTests::tornOne, "torn", y -> y.fall(0, 0), STATE);
        Bounds.leavesAll(() -> dayOf(2), "a day behind", y -> y.fall(0, 0), STATE);
        Bounds.due("on the day when it is due", dayOf(1).fall(0, 0), 8);
        Bounds.due("the day ahead of it", dayOf(0).fall(0, 0), 8);
    }

    private static PromisedSnow tornOne() {
        PromisedSnow x = Bounds.told("PC090S0990");
        x.tear(0);
        return x;
    }

    private static PromisedSnow dayOf(int day) {
        PromisedSnow x = Bounds.told("PC090S0190");
        Bounds.days(x, day);
        return x;
    }

    private static void lastFlake() {
        PromisedSnow x = Bounds.told("PC010C031C011C021S0990");
        Bounds.due("the last flake", x.fall(0, 0), 8);
        Bounds.due("its flakes", x.cloud(0, 1), 0);
        Bounds.due("no flake", x.fall(0, 0), STATE);
        Bounds.due("three of sleet", x.fall(1, 0), 7);
        Bounds.due("its flakes", x.cloud(1, 1), 1);
        Bounds.due("one left of sleet", x.fall(1, 0), STATE);
        Bounds.due("its flake stays", x.cloud(1, 1), 1);
        Bounds.due("one of sleet", x.fall(2, 0), STATE);
        Bounds.due("two of sleet", x.fall(3, 0), 6);
        Bounds.due("none left of sleet", x.fall(3, 0), STATE);
        Bounds.due("filled", x.paper(0, 3), 3);
        Bounds.due("acts", x.count(10), 3);
        Bounds.leavesAll(() -> Bounds.told("PC011S0990"), "one of sleet", y -> y.fall(0, 0), STATE);
        x = Bounds.told("PC090S0913S0923S0933S0943");
        int[] wants = {0, 0, 0, 1};
        for (int p = 0; p < 4; p++) {
            Bounds.due("halved of " + (p + 1), x.fall(0, p), wants[p]);
        }
        for (int p = 0; p < 3; p++) {
            Bounds.due("halved of " + (p + 1) + ", again", x.fall(0, p), STATE);
        }
        Bounds.due("halved of 4, again", x.fall(0, 3), 0);
        Bounds.due("halved of 4, once more", x.fall(0, 3), STATE);
        Bounds.due("flakes", x.cloud(0, 1), 4);
    }

    private static void giltAndSoft() {
        PromisedSnow x = Bounds.told("PC090C091C092C093S0991");
        Bounds.due("plain on gilt", x.fall(0, 0), 8);
        Bounds.due("sleet on gilt", x.fall(1, 0), STATE);
        Bounds.due("still on gilt", x.fall(2, 0), 7);
        Bounds.due("swift on gilt", x.fall(3, 0), 6);
        Bounds.leavesAll(() -> Bounds.told("PC091S0991"), "sleet on gilt", y -> y.fall(0, 0), STATE);
        x = Bounds.told("PW0W1W2C092C091S0992");
        Bounds.due("soft on a still day", x.fall(0, 0), 8);
        Bounds.due("sleet on soft", x.fall(1, 0), 7);
        x.day();
        Bounds.due("soft, wind on", x.fall(0, 0), STATE);
        x.day();
        Bounds.due("soft, wind back", x.fall(0, 0), STATE);
        x.day();
        Bounds.due("soft, still again", x.fall(0, 0), 6);
        Bounds.due("soft, no winds", Bounds.told("PC090S0992").fall(0, 0), 8);
        Bounds.leavesAll(() -> Bounds.told("PW1C090S0992"), "soft, wind on", y -> y.fall(0, 0), STATE);
        Bounds.leavesAll(() -> Bounds.told("PW2C090S0992"), "soft, wind back", y -> y.fall(0, 0), STATE);
        Bounds.due("gilt, wind on", Bounds.told("PW1C090S0991").fall(0, 0), 8);
        Bounds.due("halved, wind back, sleet", Bounds.told("PW2C091S0993").fall(0, 0), 3);
    }

    private static void puff() {
        for (int kind = 0; kind < 4; kind++) {
            PromisedSnow x = Bounds.told("PW1C01" + kind);
            for (int i = 1; i <= 7; i++) {
                Bounds.due("on, kind " + kind, x.puff(0, true), i % 6);
            }
            Bounds.due("back", x.puff(0, false), 0);
            for (int i = 5; i >= 0; i--) {
                Bounds.due("back, kind " + kind, x.puff(0, false), i);
            }
            Bounds.due("the day stays", x.count(4), 0);
            Bounds.due("flakes stay", x.cloud(0, 1), 1);
        }
        PromisedSnow x = Bounds.told("PC010C010C010C510");
        Bounds.due("the last one", x.puff(3, true), 0);
        yards(x, "no other", 0, 0, 0, 0);
    }

    private static void puffRefused() {
        PromisedSnow x = Bounds.told("PC010C010C010C510");
        Bounds.due("puff(0, false)", x.puff(0, false), 5);
        Bounds.due("puff(3, true)", x.puff(3, true), 0);
        Bounds.due("puff(-1, true)", x.puff(-1, true), UNKNOWN);
        Bounds.due("puff(4, false)", x.puff(4, false), UNKNOWN);
        yards(x, "as they were", 5, 0, 0, 0);
        Bounds.due("acts", x.count(10), 2);
        for (int c : NO_CLOUDS) {
            Bounds.leavesAll(Bounds::busy, "puff(" + c + ", true)", y -> y.puff(c, true), UNKNOWN);
            Bounds.leavesAll(Bounds::full, "puff(" + c + ", false)", y -> y.puff(c, false), UNKNOWN);
        }
        Bounds.due("puff(1) of one", Bounds.told("PC010").puff(1, true), UNKNOWN);
        Bounds.due("no clouds", Bounds.told("PW1S0110").puff(0, false), UNKNOWN);
    }

    private static void tearLoses() {
        PromisedSnow x = Bounds.told("PC090C090S0990S0190");
        Bounds.falls(x, 0, 0, 9);
        x.fall(1, 1);
        Bounds.due("all of it is filled", x.tear(0), 0);
        Bounds.due("filled", x.paper(0, 3), 0);
        Bounds.due("owed", x.paper(0, 4), 0);
        Bounds.due("the flakes are gone", x.cloud(0, 1), 0);
        Bounds.due("no other is torn", x.count(9), 1);
        Bounds.days(x, 2);
        Bounds.due("settled, then torn", x.tear(1), 0);
        Bounds.due("filled", x.paper(1, 3), 0);
        Bounds.due("umbrellas stay", x.count(8), 8);
        Bounds.due("torn", x.count(9), 3);
    }

    private static void tear() {
        PromisedSnow x = Bounds.told("PC090S0990S0993S0913S0990S0910");
        x.fall(0, 3);
        int[] wants = {9, 4, 1, 8, 1};
        for (int p = 0; p < 5; p++) {
            Bounds.due("tear(" + p + ")", x.tear(p), wants[p]);
            Bounds.due("torn", x.count(9), (2 << p) - 1);
            Bounds.due("tear(" + p + ") again", x.tear(p), STATE);
        }
        Bounds.due("acts", x.count(10), 6);
        x.undo();
        Bounds.due("not torn any more", x.count(9), 15);
        Bounds.due("torn once more", x.tear(4), 1);
        for (int p : NO_PAPERS) {
            Bounds.leavesAll(Bounds::busy, "tear(" + p + ")", y -> y.tear(p), UNKNOWN);
        }
        Bounds.leavesAll(Bounds::busy, "tear(4) again", y -> y.tear(4), STATE);
        Bounds.leavesAll(Bounds::full, "tear(5)", y -> y.tear(5), UNKNOWN);
        Bounds.due("tear(1) of one", Bounds.told("PS0110").tear(1), UNKNOWN);
        Bounds.due("no papers", Bounds.told("PW1C010").tear(0), UNKNOWN);
    }

    private static void undo() {
        PromisedSnow x = Bounds.told("PW2C591S5130S0990");
        Bounds.leavesAll(() -> Bounds.told("PW2C591S5130S0990"), "undo() of none", PromisedSnow::undo, STATE);
        Bounds.due("one act", x.fall(0, 0) + x.count(10), 3);
        Bounds.due("undo()", x.undo(), 0);
        Bounds.due("flakes", x.cloud(0, 1), 9);
        Bounds.due("filled", x.paper(0, 3), 0);
        Bounds.due("undo() of none", x.undo(), STATE);
        x.puff(0, true);
        Bounds.due("undo() of a puff over the ring", x.undo(), 0);
        yards(x, "as it was", 5);
        x.fall(0, 0);
        x.tear(0);
        Bounds.due("undo() of a paper torn", x.undo(), 1);
        Bounds.due("filled again", x.paper(0, 3), 1);
        Bounds.due("owed again", x.paper(0, 4), 2);
        Bounds.due("not torn", x.count(9), 0);
        Bounds.days(x, 2);
        Bounds.due("umbrellas", x.count(8), 2);
        Bounds.due("undo() of a day", x.undo(), 2);
        Bounds.due("umbrellas", x.count(8), 0);
        Bounds.due("owed again", x.paper(0, 4), 2);
        Bounds.due("the day", x.count(4), 1);
        yards(x, "on day 1", 4);
        Bounds.due("undo() of a day", x.undo(), 1);
        Bounds.due("undo() of a fall", x.undo(), 0);
        Bounds.due("undo() of none", x.undo(), STATE);
        Bounds.due("the day", x.count(4), 0);
        yards(x, "as it was", 5);
    }

    private static void lastOnly() {
        PromisedSnow x = Bounds.told("PC090S0990");
        x.puff(0, true);
        x.puff(0, true);
        x.puff(0, false);
        Bounds.due("undo()", x.undo(), 2);
        yards(x, "the third undone", 2);
        x.tear(0);
        Bounds.due("undo()", x.undo(), 2);
        yards(x, "the paper alone is no more torn", 2);
        Bounds.due("torn", x.count(9), 0);
        Bounds.due("undo()", x.undo(), 1);
        yards(x, "the second undone", 1);
        Bounds.due("undo()", x.undo(), 0);
        yards(x, "the first undone", 0);
        Bounds.due("undo() of none", x.undo(), STATE);
    }

    private static void fourteenActs() {
        for (int acts = 13; acts <= 16; acts++) {
            PromisedSnow x = Bounds.told("PC010");
            x.puff(0, true);
            Bounds.days(x, acts - 1);
            int left = Math.min(acts, 14);
            Bounds.due(acts + " acts", x.count(10), left);
            for (int i = left - 1; i >= 0; i--) {
                Bounds.due("undo() of " + acts, x.undo(), i);
            }
            Bounds.due("undo() of none, of " + acts, x.undo(), STATE);
            Bounds.due("the day, of " + acts, x.count(4), Math.max(0, acts - 15));
            yards(x, "of " + acts, acts <= 14 ? 0 : 1);
        }
        // 14 acts, 3 undone, 5 more: the first two are forgotten.
        PromisedSnow x = Bounds.told("PC010");
        Bounds.days(x, 14);
        for (int i = 0; i < 3; i++) {
            x.undo();
        }
        Bounds.puffs(x, 0, true, 5);
        Bounds.due("acts", x.count(10), 14);
        for (int i = 13; i >= 0; i--) {
            Bounds.due("undo()", x.undo(), i);
        }
        Bounds.due("undo() of none", x.undo(), STATE);
        Bounds.due("the day", x.count(4), 2);
        yards(x, "not puffed", 0);
        // Round the row more than twice.
        Bounds.days(x, 40);
        Bounds.due("acts", x.count(10), 14);
        for (int i = 13; i >= 0; i--) {
            Bounds.due("undo()", x.undo(), i);
            Bounds.due("the day", x.count(4), 28 + i);
        }
        Bounds.due("undo() of none", x.undo(), STATE);
        Bounds.days(x, 1);
        Bounds.due("one act", x.count(10), 1);
        x = Bounds.full();
        x.puff(1, true);
        Bounds.due("undo() of a fifteenth act", x.undo(), 13);
        yards(x, "as it was", 3, 1);
        for (int i = 12; i >= 0; i--) {
            Bounds.due("undo()", x.undo(), i);
        }
        Bounds.due("undo() of none", x.undo(), STATE);
        Bounds.due("what was torn first is forgotten", x.count(9), 16);
    }

    /** What is no act is not in the row, and is not undone. */
    private static void onlyThese() {
        PromisedSnow x = Bounds.told("PC090S0990");
        x.fall(0, 0);
        Bounds.write(x, "W1");
        x.see(3, 3);
        x.seed(77);
        x.keep(0);
        x.seasons(3);
        x.judge(2, 100000);
        x.puffs();
        x.where(0, 20);
        Bounds.due("acts", x.count(10), 1);
        long seed = x.seed(77);
        Bounds.due("undo()", x.undo(), 0);
        Bounds.due("letters stay", x.count(0), 12);
        Bounds.due("seen stays", x.count(11), 1);
        Bounds.due("the seed stays", x.seed(seed), 77);
        Bounds.due("kept stays", x.again(0), 0);
        Bounds.due("kept: filled", x.count(7), 1);
        Bounds.due("refused: no act", x.fall(9, 9) + x.puff(9, true) + x.tear(9), 3 * UNKNOWN);
        Bounds.due("acts", x.count(10), 0);
        x.day();
        x.unsee();
        x.wipe();
        Bounds.due("undo()", x.undo(), 0);
        Bounds.due("nothing is seen", x.count(11), 0);
        Bounds.due("letters", x.count(0), 0);
    }
}
