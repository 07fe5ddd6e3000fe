/** Boundary cases of promises 13 to 18: days to come, what can be filled, bellows that suffice, doings judged. */
public final class AheadBoundsTests {
    private static final int UNKNOWN = Bounds.UNKNOWN, OUTSIDE = Bounds.OUTSIDE, NONE = Bounds.NONE;
    private static final int[] NO_DAYS = {Bounds.LEAST, -1, 21, 22, Bounds.GREATEST};

    public static void main(String[] args) {
        Bounds.sentence(13, "IN n DAYS (0 to 20): the YARD over which a CLOUD is", AheadBoundsTests::where);
        Bounds.sentence(13, "IN n DAYS: the YARD. UNKNOWN; OUTSIDE: n.", AheadBoundsTests::whereRefused);
        Bounds.sentence(14, "how many UMBRELLAS there are then, if nothing falls.", AheadBoundsTests::umbrellas);
        Bounds.sentence(14, "IN n DAYS: UMBRELLAS. OUTSIDE: n.", AheadBoundsTests::umbrellasRefused);
        Bounds.sentence(15, "how many FLAKES of what is OWED can still be FILLED in all",
            AheadBoundsTests::mostAtItsEnds);
        Bounds.sentence(15, "by CLOUDS that CAN serve (each FLAKE for one PAPER)", AheadBoundsTests::eachFlakeOnce);
        Bounds.sentence(16, "SHORT for a PAPER: how many of it at least stay OWED, if it is served ahead of all "
            + "others.", AheadBoundsTests::lacks);
        Bounds.sentence(16, "SHORT. UNKNOWN.", AheadBoundsTests::lacksRefused);
        Bounds.sentence(17, "the fewest puffs (0 to 3; any CLOUDS, on or back, all now) by which MOST is all that is "
            + "OWED; NONE.", AheadBoundsTests::puffs);
        Bounds.sentence(18, "JUDGED: n doings (1 to 4)", AheadBoundsTests::judgeMany);
        Bounds.sentence(18, "OUTSIDE: n, row (0 or more, 3 n figures at most).", AheadBoundsTests::judgeRefused);
        Bounds.sentence(18, "told as three figures each (the first one's are the highest of row)",
            AheadBoundsTests::judgePlaces);
        Bounds.sentence(18, "(0, 0, 0: A DAY; 1, a CLOUD, a PAPER: FALLS; 2, a CLOUD, 0 or 1: PUFFED back, on; "
            + "3, 0, a PAPER: TORN; 4, a PAPER, v: v or less is OWED by it)", AheadBoundsTests::judgeFigures);
        Bounds.sentence(18, "the place (from 0 on) of the first that can not be (or is not so); NONE: none.",
            AheadBoundsTests::judgeInTurn);
        Bounds.sentence(18, "In what follows nothing is changed.", AheadBoundsTests::nothingIsChanged);
        Bounds.conclude();
    }

    private static void where() {
        PromisedSnow x = Bounds.told("PW1C010C513C312C111");
        int[] days = {0, 1, 6, 20};
        int[][] wants = {{0, 5, 3, 1}, {1, 1, 3, 2}, {0, 5, 3, 1}, {2, 3, 3, 3}};
        for (int i = 0; i < days.length; i++) {
            for (int c = 0; c < 4; c++) {
                Bounds.due("where(" + c + ", " + days[i] + ")", x.where(c, days[i]), wants[i][c]);
            }
        }
        x = Bounds.told("PW2C010C113");
        Bounds.due("back over the ring", x.where(0, 1), 5);
        Bounds.due("swift back over the ring", x.where(1, 1), 5);
        Bounds.due("back, 20 days", x.where(0, 20), 4);
        Bounds.due("swift back, 20 days", x.where(1, 20), 3);
        // The wind is on on the days 0, 3, 6 .. alone.
        x = Bounds.told("PW1W0W0C010");
        Bounds.due("18 days", x.where(0, 18), 0);
        Bounds.due("19 days", x.where(0, 19), 1);
        Bounds.due("20 days", x.where(0, 20), 1);
        Bounds.days(x, 2);
        Bounds.due("0 days from day 2", x.where(0, 0), 1);
        Bounds.due("19 days from day 2", x.where(0, 19), 1);
        Bounds.due("20 days from day 2", x.where(0, 20), 2);
        x.puff(0, false);
        Bounds.due("puffed: 0 days", x.where(0, 0), 0);
        Bounds.due("puffed: 20 days", x.where(0, 20), 1);
        Bounds.due("no winds: 20 days", Bounds.told("PC513").where(0, 20), 5);
    }

    private static void whereRefused() {
        for (int n : NO_DAYS) {
            Bounds.leavesAll(Bounds::busy, "where(0, " + n + ")", y -> y.where(0, n), OUTSIDE);
            Bounds.leavesAll(Bounds::busy, "where(3, " + n + ")", y -> y.where(3, n), OUTSIDE);
            Bounds.due("where(4, " + n + ")", Bounds.busy().where(4, n), UNKNOWN);
        }
        for (int c : new int[] {Bounds.LEAST, -1, 4, Bounds.GREATEST}) {
            Bounds.leavesAll(Bounds::busy, "where(" + c + ", 0)", y -> y.where(c, 0), UNKNOWN);
            Bounds.leavesAll(Bounds::busy, "where(" + c + ", 20)", y -> y.where(c, 20), UNKNOWN);
        }
        Bounds.due("where(1, 0) of one", Bounds.told("PC010").where(1, 0), UNKNOWN);
        Bounds.due("where(0, 0) of none", Bounds.told("P").where(0, 0), UNKNOWN);
    }

    private static void umbrellas() {
        PromisedSnow x = Bounds.told("PC090S0150S0910S0993");
        int[] days = {0, 1, 2, 9, 10, 20};
        int[] wants = {0, 0, 5, 5, 10, 10};
        for (int i = 0; i < days.length; i++) {
            Bounds.due("umbrellas(" + days[i] + ")", x.umbrellas(days[i]), wants[i]);
        }
        Bounds.falls(x, 0, 0, 5);
        Bounds.due("all of one is filled", x.umbrellas(20), 5);
        x.tear(2);
        Bounds.due("torn", x.umbrellas(20), 1);
        x.undo();
        x.undo();
        Bounds.days(x, 2);
        Bounds.due("0 days from day 2", x.umbrellas(0), 1);
        Bounds.due("7 days from day 2", x.umbrellas(7), 1);
        Bounds.due("8 days from day 2", x.umbrellas(8), 6);
        Bounds.days(x, 8);
        Bounds.due("0 days from day 10", x.umbrellas(0), 6);
        Bounds.due("20 days from day 10", x.umbrellas(20), 6);
        Bounds.due("no papers", Bounds.told("PC090").umbrellas(20), 0);
        Bounds.due("the most", Bounds.told("PS0990S0990S0990S0990S0990").umbrellas(10), 45);
    }

    private static void umbrellasRefused() {
        for (int n : NO_DAYS) {
            Bounds.leavesAll(Bounds::busy, "umbrellas(" + n + ")", y -> y.umbrellas(n), OUTSIDE);
            Bounds.due("umbrellas(" + n + ") without a pass", new PromisedSnow().umbrellas(n), OUTSIDE);
        }
        Bounds.due("umbrellas(0) without a pass", new PromisedSnow().umbrellas(0), 0);
        Bounds.due("umbrellas(20) without a pass", new PromisedSnow().umbrellas(20), 0);
    }

    private static void mostAtItsEnds() {
        Bounds.due("no pass", new PromisedSnow().most(), 0);
        Bounds.due("no clouds", Bounds.told("PS0990").most(), 0);
        Bounds.due("no papers", Bounds.told("PC090").most(), 0);
        Bounds.due("a flake fewer", Bounds.told("PC070S0980").most(), 7);
        Bounds.due("as many flakes", Bounds.told("PC080S0980").most(), 8);
        Bounds.due("a flake more", Bounds.told("PC090S0980").most(), 8);
        String papers = "S0990S0990S0990S0990S0990";
        Bounds.due("all flakes", Bounds.told("PC090C090C090C090" + papers).most(), 36);
        Bounds.due("all flakes of sleet", Bounds.told("PC091C091C091C091" + papers).most(), 16);
        Bounds.due("one flake of sleet", Bounds.told("PC011" + papers).most(), 0);
        Bounds.due("halved of one", Bounds.told("PC090S0913").most(), 1);
        PromisedSnow x = Bounds.told("PC090S0190");
        x.day();
        Bounds.due("on the day when it is due", x.most(), 9);
        x.fall(0, 0);
        Bounds.due("what is owed yet", x.most(), 8);
        x.day();
        Bounds.due("behind it", x.most(), 0);
        x = Bounds.told("PC090S0190S0920");
        x.tear(0);
        Bounds.due("torn", x.most(), 2);
        Bounds.due("just in time", Bounds.told("PW1C090S2290").most(), 9);
        Bounds.due("a day late", Bounds.told("PW1C090S2190").most(), 0);
        Bounds.due("in time over the ring", Bounds.told("PW1C590S1290").most(), 9);
    }

    private static void eachFlakeOnce() {
        Bounds.due("two papers of one cloud", Bounds.told("PC050S0930S0930").most(), 5);
        Bounds.due("two clouds of one paper", Bounds.told("PC090C090S0910").most(), 1);
        Bounds.due("one must be left", Bounds.told("PW1C020C112S1920S0120").most(), 3);
        Bounds.due("one must be left, papers in turn", Bounds.told("PW1C112C020S0120S1920").most(), 3);
        Bounds.due("sleet: gilt is for the other", Bounds.told("PC021C010S0910S0911").most(), 2);
        // A chain: each cloud can serve two papers, and each must be moved for the next one.
        Bounds.due("a chain", Bounds.told("PW1C010C112C212S1910S2910S0110").most(), 3);
    }

    private static void lacks() {
        PromisedSnow x = Bounds.told("PC040C031S0940S0950S0960S0951S0993");
        int[] wants = {0, 0, 1, 1, 0};
        for (int p = 0; p < 5; p++) {
            Bounds.due("lacks(" + p + ")", x.lacks(p), wants[p]);
        }
        Bounds.due("ahead of all others", Bounds.told("PC090S0990S0990S0990").lacks(2), 0);
        Bounds.due("no clouds", Bounds.told("PS0990").lacks(0), 9);
        Bounds.due("no clouds, halved of one", Bounds.told("PS0913").lacks(0), 1);
        x = Bounds.told("PS0190S0990");
        x.day();
        Bounds.due("on the day when it is due", x.lacks(0), 9);
        x.day();
        Bounds.due("behind it", x.lacks(0), 0);
        x.tear(1);
        Bounds.due("torn", x.lacks(1), 0);
        x = Bounds.told("PC010S0920");
        Bounds.due("a flake too few", x.lacks(0), 1);
        x.fall(0, 0);
        Bounds.due("no flake", x.lacks(0), 1);
        Bounds.due("just in time", Bounds.told("PW1C090S2290").lacks(0), 0);
        Bounds.due("a day late", Bounds.told("PW1C090S2190").lacks(0), 9);
    }

    private static void lacksRefused() {
        for (int p : new int[] {Bounds.LEAST, -1, 5, Bounds.GREATEST}) {
            Bounds.leavesAll(Bounds::busy, "lacks(" + p + ")", y -> y.lacks(p), UNKNOWN);
        }
        Bounds.due("lacks(1) of one", Bounds.told("PS0110").lacks(1), UNKNOWN);
        Bounds.due("lacks(0) of none", Bounds.told("PC010").lacks(0), UNKNOWN);
    }

    private static void puffs() {
        String[] texts = {"P", "PW1", "PC010", "PS0110", "PC092S0990", "PC192S0990", "PC292S0990", "PC392S0990",
            "PC492S0990", "PC592S0990", "PC082S0990", "PC013S0110",
            "PC192C292S0990S0990", "PC292C292S0990S0990", "PC592C192S0990S0990",
            "PC192C192C592C092S0990S0990S0990S0990", "PC192C192C592C592S0990S0990S0990S0990",
            "PC392C092S0990S0990", "PC392C192S0990S0990", "PC011S0110", "PC021S0110", "PC021S0111",
            "PC092C092S0990S1990", "PC192C192S0990S2990"};
        int[] wants = {0, 0, 0, NONE, 0, 1, 2, 3,
            2, 1, NONE, 0,
            3, NONE, 2,
            3, NONE,
            3, NONE, NONE, 0, NONE,
            1, 2};
        for (int i = 0; i < texts.length; i++) {
            Bounds.due("puffs() of " + texts[i], Bounds.told(texts[i]).puffs(), wants[i]);
        }
        PromisedSnow x = Bounds.told("PS0110S0990");
        x.tear(1);
        Bounds.due("owed, no clouds", x.puffs(), NONE);
        Bounds.days(x, 2);
        Bounds.due("nothing is owed any more", x.puffs(), 0);
        Bounds.due("by the wind, in time", Bounds.told("PW1C090S2290").puffs(), 0);
        Bounds.due("by the wind, a day late", Bounds.told("PW1C090S2190").puffs(), 1);
        Bounds.due("by the wind, against it", Bounds.told("PW1C090S5190").puffs(), 1);
        x = Bounds.told("PC392S0990");
        x.puff(0, false);
        Bounds.due("puffed once", x.puffs(), 2);
    }

    private static void judgeRefused() {
        long[] first = {1000, 1000000, 1000000000, 1000000000000L};
        for (int n = 1; n <= 4; n++) {
            int many = n;
            long over = first[n - 1];
            Bounds.due("judge(" + n + ", 0): days", Bounds.busy().judge(n, 0), NONE);
            Bounds.leavesAll(Bounds::busy, "judge(" + n + ", " + (over - 1) + ")", y -> y.judge(many, over - 1), 0);
            for (long row : new long[] {Long.MIN_VALUE, -1000, -1, over, over + 1, Long.MAX_VALUE}) {
                Bounds.leavesAll(Bounds::busy, "judge(" + n + ", " + row + ")", y -> y.judge(many, row), OUTSIDE);
            }
        }
        // 402, and 2 to the power of 32 more: a row is a long.
        Bounds.due("judge(1, 4294967698)", judged().judge(1, 4294967698L), OUTSIDE);
        Bounds.due("judge(3, 4294967698)", judged().judge(3, 4294967698L), OUTSIDE);
        Bounds.due("judge(4, 4294967698)", judged().judge(4, 4294967698L), 0);
        for (int n : new int[] {Bounds.LEAST, -1, 0, 5, 6, Bounds.GREATEST}) {
            Bounds.leavesAll(Bounds::busy, "judge(" + n + ", 0)", y -> y.judge(n, 0), OUTSIDE);
            Bounds.due("judge(" + n + ", 0) without a pass", new PromisedSnow().judge(n, 0), OUTSIDE);
            Bounds.due("judge(" + n + ", -1)", new PromisedSnow().judge(n, -1), OUTSIDE);
        }
    }

    private static void judgeMany() {
        PromisedSnow x = judged();
        Bounds.due("judge(0, 200)", x.judge(0, 200), OUTSIDE);
        Bounds.due("judge(1, 200)", x.judge(1, 200), NONE);
        Bounds.due("judge(4, 200201210211)", x.judge(4, 200201210211L), NONE);
        Bounds.due("judge(4, 200201210212)", x.judge(4, 200201210212L), 3);
        Bounds.due("judge(5, 200201210211)", x.judge(5, 200201210211L), OUTSIDE);
        Bounds.due("judge(5, 200200201210211)", x.judge(5, 200200201210211L), OUTSIDE);
    }

    private static PromisedSnow judged() {
        // Cloud 0 over 0 with a flake, cloud 1 beside it with 9; paper 0 owes 2, paper 1 owes 4 till day 1.
        return Bounds.told("PC010C590S0920S0193");
    }

    private static void judgePlaces() {
        PromisedSnow x = judged();
        Bounds.due("the last of four", x.judge(4, 401L), 3);
        Bounds.due("the third of four", x.judge(4, 401000L), 2);
        Bounds.due("the second of four", x.judge(4, 401000000L), 1);
        Bounds.due("the first of four", x.judge(4, 401000000000L), 0);
        Bounds.due("two of four: the first of them", x.judge(4, 401000401L), 1);
        Bounds.due("none of four", x.judge(4, 402402402402L), NONE);
        Bounds.due("a day ahead, by no figures", x.judge(2, 100L), NONE);
        Bounds.due("one alone", x.judge(1, 401L), 0);
        Bounds.due("none of one", x.judge(1, 402L), NONE);
    }

    private static void judgeFigures() {
        int[] fine = {0, 100, 101, 200, 201, 210, 211, 300, 301, 402, 403, 409, 414, 415, 419};
        int[] not = {1, 9, 10, 90, 99, 102, 109, 110, 111, 120, 121, 190, 199, 202, 209, 212, 219, 220, 221, 290, 299,
            302, 309, 310, 311, 390, 399, 400, 401, 410, 413, 420, 429, 490, 499, 500, 510, 555, 600, 700, 800, 900,
            999};
        for (int figures : fine) {
            Bounds.leavesAll(AheadBoundsTests::judged, "judge(1, " + figures + ")", y -> y.judge(1, figures), NONE);
        }
        for (int figures : not) {
            Bounds.leavesAll(AheadBoundsTests::judged, "judge(1, " + figures + ")", y -> y.judge(1, figures), 0);
        }
        PromisedSnow all = Bounds.told("PC010C010C010C010S0910S0910S0910S0910S0910");
        Bounds.due("the last cloud, the last paper", all.judge(1, 134), NONE);
        Bounds.due("no such paper", all.judge(1, 135), 0);
        Bounds.due("no such cloud", all.judge(1, 144), 0);
        Bounds.due("the last cloud puffed", all.judge(1, 231), NONE);
        Bounds.due("no such cloud puffed", all.judge(1, 241), 0);
        Bounds.due("the last paper torn", all.judge(1, 304), NONE);
        Bounds.due("no such paper torn", all.judge(1, 305), 0);
        Bounds.due("the last paper's owed", all.judge(1, 441), NONE);
        Bounds.due("no such paper's owed", all.judge(1, 459), 0);
        PromisedSnow none = new PromisedSnow();
        Bounds.due("without a pass, a day", none.judge(1, 0), NONE);
        for (int figures : new int[] {100, 200, 201, 300, 400, 409}) {
            Bounds.due("without a pass, " + figures, none.judge(1, figures), 0);
        }
    }

    private static void judgeInTurn() {
        PromisedSnow x = judged();
        long[][] runs = {{2, 100100, 1}, {2, 211110, NONE}, {2, 210110, 1}, {2, 300300, 1}, {2, 300301, NONE},
            {2, 301400, 1}, {2, 300400, NONE}, {2, 300100, 1}, {2, 100401, NONE}, {2, 100400, 1}, {2, 101, NONE},
            {3, 101, 2}, {2, 410, 1}, {3, 410, NONE}, {2, 301, NONE}, {4, 301, NONE}, {3, 211110110, NONE},
            {4, 211110110110L, 3}, {4, 211110110400L, NONE}, {4, 211110110100L, 3}, {4, 200201100401L, NONE},
            {4, 300300500999L, 1}, {2, 100300, NONE}, {3, 100300100, 2}};
        for (long[] run : runs) {
            Bounds.due("judge(" + run[0] + ", " + run[1] + ")", x.judge((int) run[0], run[1]), run[2]);
        }
        x = Bounds.told("PW1W0C092S1992S0910");
        Bounds.due("soft in wind", Bounds.told("PW1W0C192S1992").judge(1, 100), 0);
        Bounds.due("soft in wind, then still", Bounds.told("PW1W0C192S1992").judge(2, 100), NONE);
        Bounds.due("a still one stays", x.judge(4, 1), 3);
        Bounds.due("from the torn one on", tornFirst().judge(1, 300), 0);
        Bounds.due("from the torn one on", tornFirst().judge(1, 400), NONE);
    }

    private static PromisedSnow tornFirst() {
        PromisedSnow x = judged();
        x.tear(0);
        return x;
    }

    private static void nothingIsChanged() {
        Bounds.leavesAll(Bounds::full, "where(0, 20)", y -> y.where(0, 20), 3);
        Bounds.leavesAll(Bounds::full, "umbrellas(20)", y -> y.umbrellas(20), 8);
        Bounds.leavesAll(Bounds::full, "lacks(4)", y -> y.lacks(4), 0);
        Bounds.leavesAll(Bounds::full, "puffs()", PromisedSnow::puffs, 0);
        Bounds.leavesAll(Bounds::full, "judge(4, 0)", y -> y.judge(4, 0), NONE);
        Bounds.leavesAll(Bounds::full, "judge(4, 231231231231)", y -> y.judge(4, 231231231231L), NONE);
        Bounds.leavesAll(Bounds::busy, "judge(3, 303302230)", y -> y.judge(3, 303302230L), NONE);
        Bounds.leavesAll(() -> Bounds.told("PC392S0990"), "puffs()", PromisedSnow::puffs, 3);
        Bounds.leavesAll(() -> Bounds.told("PC090S0980"), "most()", PromisedSnow::most, 8);
        Bounds.leavesAll(AheadBoundsTests::judged, "judge(4, 100301211110)", y -> y.judge(4, 100301211110L), NONE);
    }
}
