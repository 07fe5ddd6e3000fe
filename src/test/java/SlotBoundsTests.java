/** Boundary cases of promises 27 to 29: what is kept, gone on from, counted. */
public final class SlotBoundsTests {
    private static final int UNKNOWN = Bounds.UNKNOWN, OUTSIDE = Bounds.OUTSIDE, STATE = Bounds.STATE;
    private static final int[] NO_SLOTS = {Bounds.LEAST, -1, 2, 3, Bounds.GREATEST};

    public static void main(String[] args) {
        Bounds.sentence(27, "They are kept: THE DAY. UNKNOWN.", SlotBoundsTests::keep);
        Bounds.sentence(27, "SLOTS 0 to 1 keep where CLOUDS are, FLAKES, what is FILLED, TORN, UMBRELLAS, THE DAY",
            SlotBoundsTests::whatIsKept);
        Bounds.sentence(28, "They are as they were kept: THE DAY. UNKNOWN; STATE: none were kept.",
            SlotBoundsTests::again);
        Bounds.sentence(28, "(THE ROW of ACTS is empty when one goes on)", SlotBoundsTests::rowWhenOneGoesOn);
        Bounds.sentence(29, "0 letters of THE TEXT, 1 WINDS, 2 CLOUDS, 3 PAPERS, 4 THE DAY, 5 THE WIND of THE DAY, "
            + "6 what is OWED in all, 7 FILLED in all, 8 UMBRELLAS, 9 who is TORN (bits), 10 ACTS in the row, 11 SEEN.",
            SlotBoundsTests::countsAtTheirEnds);
        Bounds.sentence(29, "11 SEEN. OUTSIDE.", SlotBoundsTests::countRefused);
        Bounds.conclude();
    }

    private static void keep() {
        PromisedSnow x = new PromisedSnow();
        Bounds.due("keep(0) of nothing", x.keep(0), 0);
        Bounds.due("keep(1) of nothing", x.keep(1), 0);
        Bounds.due("again(1) of nothing", x.again(1), 0);
        x = Bounds.told("PW1C010");
        for (int d = 1; d <= 3; d++) {
            x.day();
            Bounds.due("keep(0) on day " + d, x.keep(0), d);
        }
        Bounds.due("acts stay", x.count(10), 3);
        Bounds.due("the other is not kept", x.again(1), STATE);
        Bounds.due("keep(1)", x.keep(1), 3);
        x.day();
        Bounds.due("keep(1) anew", x.keep(1), 4);
        Bounds.due("again(0)", x.again(0), 3);
        Bounds.due("yard", x.cloud(0, 0), 3);
        Bounds.due("again(1)", x.again(1), 4);
        Bounds.due("yard", x.cloud(0, 0), 4);
        for (int slot : NO_SLOTS) {
            Bounds.leavesAll(Bounds::busy, "keep(" + slot + ")", y -> y.keep(slot), UNKNOWN);
            Bounds.leavesAll(Bounds::full, "keep(" + slot + ")", y -> y.keep(slot), UNKNOWN);
        }
    }

    private static void whatIsKept() {
        PromisedSnow x = Bounds.told("PW1C591S0220S0150S0940");
        x.day();
        x.fall(0, 0);
        x.tear(2);
        x.day();
        x.keep(1);
        x.puff(0, false);
        x.puff(0, false);
        x.fall(0, 0);
        x.tear(0);
        Bounds.days(x, 5);
        Bounds.due("again(1)", x.again(1), 2);
        Bounds.due("the day", x.count(4), 2);
        Bounds.due("the wind", x.count(5), 1);
        Bounds.due("yard", x.cloud(0, 0), 1);
        Bounds.due("flakes", x.cloud(0, 1), 7);
        Bounds.due("filled", x.paper(0, 3), 1);
        Bounds.due("owed", x.count(6), 1);
        Bounds.due("torn", x.count(9), 4);
        Bounds.due("umbrellas", x.count(8), 5);
        x.puff(0, false);
        x.tear(1);
        x.undo();
        x.undo();
        Bounds.due("kept as it was", x.again(1), 2);
        Bounds.due("yard", x.cloud(0, 0), 1);
        Bounds.due("torn", x.count(9), 4);
        x.day();
        x.keep(0);
        x.undo();
        Bounds.due("undo() leaves what is kept", x.again(0), 3);
    }

    private static void again() {
        for (int slot = 0; slot < 2; slot++) {
            int kept = slot;
            int other = 1 - slot;
            Bounds.leavesAll(PromisedSnow::new, "again(" + slot + ") of none", y -> y.again(kept), STATE);
            Bounds.leavesAll(Bounds::full, "again(" + slot + ") of none", y -> y.again(kept), STATE);
            Bounds.leavesAll(() -> keptAlone(other), "again(" + slot + ") of the other", y -> y.again(kept), STATE);
            Bounds.due("again(" + slot + ")", keptAlone(slot).again(slot), 3);
            PromisedSnow x = keptAlone(slot);
            x.pass();
            Bounds.due("again(" + slot + ") behind a pass", x.again(slot), STATE);
            x = keptAlone(slot);
            x.write('W');
            Bounds.due("a pass refused", x.pass(), STATE);
            Bounds.due("again(" + slot + ") behind a pass refused", x.again(slot), 3);
            Bounds.due("again(" + slot + ") twice", x.again(slot), 3);
        }
        for (int slot : NO_SLOTS) {
            Bounds.leavesAll(Bounds::busy, "again(" + slot + ")", y -> y.again(slot), UNKNOWN);
            Bounds.leavesAll(Bounds::full, "again(" + slot + ")", y -> y.again(slot), UNKNOWN);
            Bounds.due("again(" + slot + ") of nothing", new PromisedSnow().again(slot), UNKNOWN);
        }
    }

    private static PromisedSnow keptAlone(int slot) {
        PromisedSnow x = Bounds.told("PC010");
        Bounds.days(x, 3);
        x.keep(slot);
        x.day();
        return x;
    }

    private static void rowWhenOneGoesOn() {
        PromisedSnow x = Bounds.told("PC010");
        x.keep(0);
        Bounds.due("undo() of none", x.undo(), STATE);
        Bounds.days(x, 20);
        x.see(1, 1);
        x.seed(9);
        Bounds.due("acts", x.count(10), 14);
        Bounds.due("again(0)", x.again(0), 0);
        Bounds.due("acts", x.count(10), 0);
        Bounds.due("undo()", x.undo(), STATE);
        Bounds.due("the day", x.count(4), 0);
        Bounds.due("letters stay", x.count(0), 5);
        Bounds.due("seen stays", x.count(11), 1);
        Bounds.due("the seed stays", x.seed(0), 9);
        Bounds.days(x, 15);
        Bounds.due("acts", x.count(10), 14);
        for (int i = 13; i >= 0; i--) {
            Bounds.due("undo()", x.undo(), i);
        }
        Bounds.due("undo()", x.undo(), STATE);
        Bounds.due("the day", x.count(4), 1);
        x.day();
        Bounds.due("refused: again(1)", x.again(1), STATE);
        Bounds.due("acts stay", x.count(10), 1);
    }

    private static void countsAtTheirEnds() {
        PromisedSnow x = Bounds.told("PW2W1W0W0C090C090C090C090S0990S0990S0990S0990S0990");
        int[] first = {50, 4, 4, 5, 0, 2, 45, 0, 0, 0, 0, 0};
        for (int what = 0; what <= 11; what++) {
            Bounds.due("count(" + what + ") at first", x.count(what), first[what]);
        }
        for (int p = 0; p < 4; p++) {
            Bounds.falls(x, p, p, 9);
        }
        Bounds.due("filled in all", x.count(7), 36);
        Bounds.due("owed in all", x.count(6), 9);
        Bounds.due("acts", x.count(10), 14);
        for (int p = 0; p < 5; p++) {
            x.tear(p);
        }
        Bounds.due("all are torn", x.count(9), 31);
        Bounds.due("filled in all", x.count(7), 0);
        Bounds.due("owed in all", x.count(6), 0);
        Bounds.due("full text", Bounds.full().count(0), 52);
        Bounds.due("all that is seen", Bounds.full().count(11), 6);
        Bounds.due("all acts", Bounds.full().count(10), 14);
        x = Bounds.told("PW0W1W2S0990S0990S0990S0990S0990");
        Bounds.days(x, 9);
        Bounds.due("owed on day 9", x.count(6), 45);
        Bounds.due("the wind of day 9", x.count(5), 0);
        x.day();
        Bounds.due("the day", x.count(4), 10);
        Bounds.due("the wind of day 10", x.count(5), 1);
        Bounds.due("umbrellas", x.count(8), 45);
        Bounds.due("owed on day 10", x.count(6), 0);
        x.tear(4);
        Bounds.due("the last is torn", x.count(9), 16);
        x.undo();
        x.tear(0);
        Bounds.due("the first is torn", x.count(9), 1);
    }

    private static void countRefused() {
        for (int what : new int[] {Bounds.LEAST, -1, 12, 13, Bounds.GREATEST}) {
            Bounds.leavesAll(Bounds::busy, "count(" + what + ")", y -> y.count(what), OUTSIDE);
            Bounds.due("count(" + what + ") of nothing", new PromisedSnow().count(what), OUTSIDE);
        }
        for (int what = 0; what <= 11; what++) {
            Bounds.due("count(" + what + ") of nothing", new PromisedSnow().count(what), 0);
        }
    }
}
