/** Boundary cases of promises 19 to 26: what is seen, where it began, shares, rests, chances, seasons by a seed. */
public final class SeenBoundsTests {
    private static final int UNKNOWN = Bounds.UNKNOWN, OUTSIDE = Bounds.OUTSIDE, FULL = Bounds.FULL;
    private static final int[] NO_YARDS = {Bounds.LEAST, -1, 6, 7, Bounds.GREATEST};
    private static final int[] NO_CLOUDS = {Bounds.LEAST, -1, 4, 5, Bounds.GREATEST};

    public static void main(String[] args) {
        Bounds.sentence(19, "was over YARD y behind n DAYS (0 to 9): 6 such at most, none at first",
            SeenBoundsTests::see);
        Bounds.sentence(19, "SEEN: how many there are. UNKNOWN: yard; OUTSIDE: n; FULL: 6.",
            SeenBoundsTests::seeRefused);
        Bounds.sentence(20, "Nothing is SEEN: how much there was.", SeenBoundsTests::unsee);
        Bounds.sentence(21, "BEGAN for a KIND: YARDS (bits) over which it may have begun, so that all that is SEEN is "
            + "so.", SeenBoundsTests::began);
        Bounds.sentence(21, "that a CLOUD of KIND k (0 to 3), of THE PASS from DAY 0 on, never PUFFED",
            SeenBoundsTests::beganFromDayZero);
        Bounds.sentence(21, "BEGAN, as bits. OUTSIDE: kind.", SeenBoundsTests::beganRefused);
        Bounds.sentence(22, "if CLOUDS come one by one, in each order as likely (others are not there): by how many in "
            + "the mean MOST is more when it has come than it was: a FRACTION.", SeenBoundsTests::share);
        Bounds.sentence(22, "SHARE. UNKNOWN.", SeenBoundsTests::shareRefused);
        Bounds.sentence(22, "FRACTIONS are told above (upper = true; below 0, if they are), below (1 and more), in "
            + "least terms; refusals of them are told likewise.", SeenBoundsTests::fractions);
        Bounds.sentence(23, "RESTS of two CLOUDS: each is PUFFED back (0), on (1), or not (2), now",
            SeenBoundsTests::rests);
        Bounds.sentence(23, "each has as many FLAKES as it HAS, and CAN serve with, alone, of what is OWED by PAPERS "
            + "that it CAN serve from where it is then, and 2 more, if the other one is over another YARD then; less "
            + "1, if it is PUFFED", SeenBoundsTests::whatARestIsWorth);
        Bounds.sentence(23, "pairs in which neither has more by another choice alone: how many; the first (10 times "
            + "the one and the other); NONE.", SeenBoundsTests::neitherHasMore);
        Bounds.sentence(23, "RESTS: how many (what = 0), the first (1); NONE. UNKNOWN: both; OUTSIDE: both are one, "
            + "what.", SeenBoundsTests::restsRefused);
        Bounds.sentence(24, "on each of n DAYS (1 to 6) from now on the WIND fails by x tenths (0 to 10), by itself "
            + "(no CLOUD goes)", SeenBoundsTests::fails);
        Bounds.sentence(24, "that a CLOUD is over a YARD then: a FRACTION.", SeenBoundsTests::failsByYards);
        Bounds.sentence(24, "FAILS. UNKNOWN: both; OUTSIDE: n, x.", SeenBoundsTests::failsRefused);
        Bounds.sentence(25, "THE SEED is v: what it was.", SeenBoundsTests::seed);
        Bounds.sentence(26, "SEASONS by THE SEED: m times (1 to 30)", SeenBoundsTests::seasonsMany);
        Bounds.sentence(26, "x (THE SEED, a long; 0 at first) becomes x times 6364136223846793005 and "
            + "1442695040888963407 (64 bits, wrapping)", SeenBoundsTests::seedGoesOn);
        Bounds.sentence(26, "its upper 31 bits by 28, what is left: 0 to 19: that by 5 (cut) is a CLOUD that falls on "
            + "the PAPER that is left by 5, if it can; 20 and more A DAY", SeenBoundsTests::draws);
        Bounds.sentence(26, "FILLED of all PAPERS, and UMBRELLAS, each time, together. (Nothing changes but THE SEED.)",
            SeenBoundsTests::seasons);
        Bounds.sentence(26, "SEASONS. OUTSIDE: m.", SeenBoundsTests::seasonsRefused);
        Bounds.conclude();
    }

    private static void see() {
        PromisedSnow x = new PromisedSnow();
        Bounds.due("none at first", x.count(11), 0);
        int[][] seen = {{0, 0}, {5, 9}, {0, 9}, {5, 0}, {1, 1}, {1, 1}};
        for (int i = 0; i < 6; i++) {
            Bounds.due("see of " + (i + 1), x.see(seen[i][0], seen[i][1]), i + 1);
            Bounds.due("seen", x.count(11), i + 1);
        }
        Bounds.due("a seventh", x.see(0, 0), FULL);
        Bounds.due("a seventh", x.see(5, 9), FULL);
        Bounds.due("seen", x.count(11), 6);
        Bounds.due("unsee()", x.unsee(), 6);
        Bounds.due("the first again", x.see(5, 9), 1);
    }

    private static void seeRefused() {
        for (int yard : NO_YARDS) {
            for (int n : new int[] {-1, 0, 9, 10}) {
                Bounds.leavesAll(Bounds::busy, "see(" + yard + ", " + n + ")", y -> y.see(yard, n), UNKNOWN);
            }
            Bounds.leavesAll(Bounds::full, "see(" + yard + ", 0) when full", y -> y.see(yard, 0), UNKNOWN);
        }
        for (int n : new int[] {Bounds.LEAST, -1, 10, 11, Bounds.GREATEST}) {
            Bounds.leavesAll(Bounds::busy, "see(0, " + n + ")", y -> y.see(0, n), OUTSIDE);
            Bounds.leavesAll(Bounds::full, "see(5, " + n + ") when full", y -> y.see(5, n), OUTSIDE);
        }
        Bounds.leavesAll(Bounds::full, "see(0, 0) when full", y -> y.see(0, 0), FULL);
        Bounds.leavesAll(Bounds::full, "see(5, 9) when full", y -> y.see(5, 9), FULL);
    }

    private static void unsee() {
        PromisedSnow x = new PromisedSnow();
        Bounds.due("unsee() of none", x.unsee(), 0);
        for (int n = 1; n <= 6; n++) {
            for (int i = 0; i < n; i++) {
                x.see(i, 0);
            }
            Bounds.due("unsee() of " + n, x.unsee(), n);
            Bounds.due("seen", x.count(11), 0);
            Bounds.due("began(0)", x.began(0), 63);
        }
        Bounds.due("unsee() of none", x.unsee(), 0);
    }

    private static void seen(PromisedSnow x, int yard, int n, int... wants) {
        x.unsee();
        x.see(yard, n);
        for (int kind = 0; kind < 4; kind++) {
            Bounds.due("began(" + kind + ") by " + yard + " behind " + n, x.began(kind), wants[kind]);
        }
    }

    private static void began() {
        PromisedSnow x = Bounds.told("PW1");
        for (int kind = 0; kind < 4; kind++) {
            Bounds.due("nothing is seen, kind " + kind, x.began(kind), 63);
        }
        seen(x, 0, 0, 1, 1, 1, 1);
        seen(x, 5, 0, 32, 32, 32, 32);
        seen(x, 0, 1, 1 << 5, 1 << 5, 1, 1 << 4);
        seen(x, 0, 9, 1 << 3, 1 << 3, 1, 1);
        seen(x, 5, 9, 1 << 2, 1 << 2, 1 << 5, 1 << 5);
        x = Bounds.told("PW2");
        seen(x, 5, 1, 1, 1, 1 << 5, 1 << 1);
        seen(x, 5, 9, 1 << 2, 1 << 2, 1 << 5, 1 << 5);
        // The wind is on on the days 0, 4 and 8 alone.
        x = Bounds.told("PW1W0W0W0");
        seen(x, 0, 8, 1 << 4, 1 << 4, 1, 1 << 2);
        seen(x, 0, 9, 1 << 3, 1 << 3, 1, 1);
        x.see(0, 8);
        int[] wants = {0, 0, 1, 0};
        for (int kind = 0; kind < 4; kind++) {
            Bounds.due("both can not be, but for a still one, kind " + kind, x.began(kind), wants[kind]);
        }
        x.unsee();
        for (int i = 0; i < 6; i++) {
            x.see(2, 0);
        }
        Bounds.due("six times the same", x.began(0), 4);
        x.unsee();
        for (int i = 0; i < 5; i++) {
            x.see(2, 0);
        }
        x.see(3, 0);
        Bounds.due("the sixth is otherwise", x.began(0), 0);
        Bounds.due("a seventh is refused", x.see(2, 0), FULL);
        Bounds.due("no winds", beganWithout(5, 9, 3), 32);
    }

    private static int beganWithout(int yard, int n, int kind) {
        PromisedSnow x = new PromisedSnow();
        x.see(yard, n);
        return x.began(kind);
    }

    private static void beganFromDayZero() {
        PromisedSnow x = Bounds.told("PW1C010");
        x.see(0, 1);
        Bounds.days(x, 3);
        x.puff(0, true);
        Bounds.due("days and puffs are nothing to it", x.began(0), 32);
        x.wipe();
        Bounds.write(x, "PW2");
        Bounds.due("till the pass is made", x.began(0), 32);
        x.pass();
        Bounds.due("by the new pass", x.began(0), 2);
        Bounds.due("swift, by the new pass", x.began(3), 4);
        x.wipe();
        x.write('P');
        x.pass();
        Bounds.due("no winds", x.began(3), 1);
    }

    private static void beganRefused() {
        for (int kind : new int[] {Bounds.LEAST, -1, 4, 5, Bounds.GREATEST}) {
            Bounds.leavesAll(Bounds::busy, "began(" + kind + ")", y -> y.began(kind), OUTSIDE);
            Bounds.leavesAll(Bounds::full, "began(" + kind + ")", y -> y.began(kind), OUTSIDE);
            Bounds.due("began(" + kind + ") of nothing", new PromisedSnow().began(kind), OUTSIDE);
        }
        Bounds.leavesAll(Bounds::full, "began(3)", y -> y.began(3), 0);
    }

    private static void fraction(String what, long upper, long lower, long above, long below) {
        Bounds.due(what + ", upper", upper, above);
        Bounds.due(what + ", lower", lower, below);
    }

    private static void share(String text, int cloud, int above, int below) {
        PromisedSnow x = Bounds.told(text);
        fraction("share(" + cloud + ") of " + text, x.share(cloud, true), x.share(cloud, false), above, below);
    }

    private static void share() {
        share("PC010", 0, 0, 1);
        share("PC010S0990", 0, 1, 1);
        share("PC090S0990", 0, 9, 1);
        share("PC190S0990", 0, 0, 1);
        share("PC011S0990", 0, 0, 1);
        share("PC010C010S0910", 1, 1, 2);
        share("PC010C010C010S0910", 2, 1, 3);
        share("PC010C010C010C010S0910", 3, 1, 4);
        share("PC090C090C090C090S0990S0990S0990S0990S0990", 3, 9, 1);
        // As the first of four it fills 2, as the second 1: 3 in 4; the others have what is left of 2.
        share("PC020C010C010C010S0920", 0, 3, 4);
        share("PC020C010C010C010S0920", 3, 5, 12);
        // Sleet can not fill the gilt paper, so half of the time the other one is as much as there.
        share("PC021C010S0911S0910", 1, 1, 1);
        share("PC021C010S0910", 0, 1, 2);
        PromisedSnow x = Bounds.told("PC010C010S0910");
        x.fall(0, 0);
        fraction("nothing is owed", x.share(1, true), x.share(1, false), 0, 1);
        x.undo();
        x.tear(0);
        fraction("torn", x.share(1, true), x.share(1, false), 0, 1);
    }

    private static void shareRefused() {
        for (int c : NO_CLOUDS) {
            Bounds.leavesAll(Bounds::busy, "share(" + c + ", true)", y -> y.share(c, true), UNKNOWN);
            Bounds.leavesAll(Bounds::busy, "share(" + c + ", false)", y -> y.share(c, false), UNKNOWN);
        }
        Bounds.due("share(1) of one", Bounds.told("PC010S0110").share(1, false), UNKNOWN);
        Bounds.due("share(0) of none", Bounds.told("PS0110").share(0, true), UNKNOWN);
        Bounds.leavesAll(() -> Bounds.told("PC010C010S0910"), "share(0, false)", y -> y.share(0, false), 2);
    }

    private static void fractions() {
        PromisedSnow x = Bounds.told("PW1C010S0910");
        fraction("nothing", x.fails(0, 5, 1, 5, true), x.fails(0, 5, 1, 5, false), 0, 1);
        fraction("all", x.fails(0, 1, 1, 0, true), x.fails(0, 1, 1, 0, false), 1, 1);
        fraction("half", x.fails(0, 1, 1, 5, true), x.fails(0, 1, 1, 5, false), 1, 2);
        fraction("a tenth", x.fails(0, 1, 1, 9, true), x.fails(0, 1, 1, 9, false), 1, 10);
        fraction("two tenths", x.fails(0, 1, 1, 8, true), x.fails(0, 1, 1, 8, false), 1, 5);
        fraction("a share of all", x.share(0, true), x.share(0, false), 1, 1);
        fraction("refused share", x.share(1, true), x.share(1, false), UNKNOWN, UNKNOWN);
        fraction("refused cloud", x.fails(1, 0, 1, 1, true), x.fails(1, 0, 1, 1, false), UNKNOWN, UNKNOWN);
        fraction("refused days", x.fails(0, 0, 7, 1, true), x.fails(0, 0, 7, 1, false), OUTSIDE, OUTSIDE);
    }

    private static void rest(String text, int one, int other, int many, int first) {
        PromisedSnow x = Bounds.told(text);
        Bounds.due("how many rests of " + text, x.rests(one, other, 0), many);
        Bounds.due("the first of " + text, x.rests(one, other, 1), first);
    }

    private static void rests() {
        // Both over 1, and all that is owed is over 0 or over 2: both are puffed back, or both on.
        rest("PC192C192S0990", 0, 1, 1, 0);
        rest("PC192C192S2990", 0, 1, 1, 11);
        // Over the ring: from 0 back to 5, from 5 on to 0; the other one is better off where it is.
        rest("PC092C392S5990", 0, 1, 1, 2);
        rest("PC592C292S0990", 0, 1, 1, 12);
        rest("PC392C092S5990", 0, 1, 1, 20);
        rest("PC292C592S0990", 0, 1, 1, 21);
        // Nothing is owed: apart they stay (or change yards, if they are side by side), together one of them goes.
        rest("PC010C310", 0, 1, 1, 22);
        rest("PC010C210", 0, 1, 1, 22);
        rest("PC010C110", 0, 1, 2, 10);
        rest("PC510C010", 0, 1, 2, 10);
        rest("PC010C510", 0, 1, 2, 1);
        rest("PC010C010", 0, 1, 4, 2);
        rest("PC010C010", 1, 0, 4, 2);
        // A puff costs as much as it brings by a flake: the two more decide.
        rest("PC092C092S0910", 0, 1, 5, 2);
        rest("PC092C092S0920", 0, 1, 1, 22);
        rest("PC010C010C010C010", 3, 2, 4, 2);
        rest("PC011C031S1990", 0, 1, 3, 2);
        PromisedSnow x = Bounds.told("PC092C092S0910");
        x.fall(0, 0);
        Bounds.due("how many, nothing is owed any more", x.rests(0, 1, 0), 4);
    }

    /** The other one stays over 3 in any case: a puff on for no flake is too dear, for one it is as good as none. */
    private static void whatARestIsWorth() {
        for (String none : new String[] {"C011C312S1990", "C041C312S1991", "C092C312"}) {
            rest("P" + none, 0, 1, 1, 22);
        }
        PromisedSnow x = Bounds.told("PC092C312S1190S1990");
        Bounds.due("the first, all is owed", x.rests(0, 1, 1), 12);
        Bounds.days(x, 2);
        x.tear(1);
        Bounds.due("the first, one is settled, one is torn", x.rests(0, 1, 1), 22);
        Bounds.due("how many, one is settled, one is torn", x.rests(0, 1, 0), 1);
        rest("PW1C022C312S1912", 0, 1, 1, 22);
        for (String one : new String[] {"C012C312S1990", "C012C312S1910", "C022C312S1910", "C021C312S1990",
            "C031C312S1990", "C022C312S1933", "C022C312S1913", "C022C312S1912", "C012C312S1911"}) {
            rest("P" + one, 0, 1, 2, 12);
        }
        for (String two : new String[] {"C022C312S1920", "C041C312S1990", "C022C312S1910S1910", "C092C312S1943",
            "C022C312S1912S1911"}) {
            rest("P" + two, 0, 1, 1, 12);
        }
        // Both alone: each counts all of the same paper for itself.
        rest("PC022C222S1920", 0, 1, 2, 12);
        rest("PC032C232S1930", 0, 1, 3, 10);
        rest("PC042C242S1940", 0, 1, 1, 10);
    }

    private static void neitherHasMore() {
        // As much by another choice is not more: a puff for one flake rests, and so does none.
        rest("PC012C312S1990", 0, 1, 2, 12);
        rest("PC012C312S5990", 0, 1, 2, 2);
        rest("PC312C012S1990", 0, 1, 2, 21);
        // Two of each rest: all four pairs do.
        rest("PC012C312S1990S4990", 0, 1, 4, 11);
        rest("PC012C312S5990S2990", 0, 1, 4, 0);
        // One flake more, and one pair is left.
        rest("PC022C322S1990S4990", 0, 1, 1, 11);
        rest("PC022C322S5990S2990", 0, 1, 1, 0);
        rest("PC022C322S5990S4990", 0, 1, 1, 1);
        rest("PC022C322S1990S2990", 0, 1, 1, 10);
    }

    private static void failsByYards() {
        PromisedSnow x = Bounds.told("PW1C010");
        // None, one, two .. of the six winds blow, as likely as not: 1, 6, 15, 20, 15, 6, 1 of 64.
        int[] above = {1, 3, 15, 5, 15, 3};
        int[] below = {32, 32, 64, 16, 64, 32};
        for (int yard = 0; yard < 6; yard++) {
            fails(x, 0, yard, 6, 5, above[yard], below[yard]);
        }
        fails(Bounds.told("PW2C010"), 0, 5, 6, 5, 3, 32);
        fails(Bounds.told("PW2C010"), 0, 1, 6, 5, 3, 32);
        Bounds.due("yard 6", x.fails(0, 6, 6, 5, true), UNKNOWN);
        Bounds.due("yard -1", x.fails(0, -1, 6, 5, true), UNKNOWN);
    }

    private static void restsRefused() {
        for (int c : NO_CLOUDS) {
            for (int what : new int[] {-1, 0, 1, 2}) {
                Bounds.due("rests(" + c + ", 0, " + what + ")", Bounds.busy().rests(c, 0, what), UNKNOWN);
                Bounds.due("rests(3, " + c + ", " + what + ")", Bounds.busy().rests(3, c, what), UNKNOWN);
                Bounds.due("rests(" + c + ", itself, " + what + ")", Bounds.busy().rests(c, c, what), UNKNOWN);
            }
            Bounds.leavesAll(Bounds::busy, "rests(" + c + ", 0, 0)", y -> y.rests(c, 0, 0), UNKNOWN);
            Bounds.leavesAll(Bounds::busy, "rests(0, " + c + ", 1)", y -> y.rests(0, c, 1), UNKNOWN);
        }
        for (int c = 0; c < 4; c++) {
            int one = c;
            for (int what : new int[] {-1, 0, 1, 2}) {
                Bounds.due("rests(" + c + ", itself, " + what + ")", Bounds.busy().rests(c, c, what), OUTSIDE);
            }
            Bounds.leavesAll(Bounds::busy, "rests(" + c + ", itself, 0)", y -> y.rests(one, one, 0), OUTSIDE);
        }
        for (int what : new int[] {Bounds.LEAST, -1, 2, 3, Bounds.GREATEST}) {
            Bounds.leavesAll(Bounds::busy, "rests(0, 3, " + what + ")", y -> y.rests(0, 3, what), OUTSIDE);
        }
        Bounds.due("the other one is not there", Bounds.told("PC010").rests(0, 1, 0), UNKNOWN);
        Bounds.leavesAll(() -> Bounds.told("PC192C192S0990"), "rests(0, 1, 1)", y -> y.rests(0, 1, 1), 0);
    }

    private static void fails(PromisedSnow x, int cloud, int yard, int n, int tenths, int above, int below) {
        fraction("fails(" + cloud + ", " + yard + ", " + n + ", " + tenths + ")",
            x.fails(cloud, yard, n, tenths, true), x.fails(cloud, yard, n, tenths, false), above, below);
    }

    private static void fails() {
        PromisedSnow x = Bounds.told("PW1C010C510C012C013");
        fails(x, 0, 1, 1, 0, 1, 1);
        fails(x, 0, 0, 1, 0, 0, 1);
        fails(x, 0, 0, 1, 10, 1, 1);
        fails(x, 0, 1, 1, 10, 0, 1);
        fails(x, 0, 1, 1, 1, 9, 10);
        fails(x, 0, 0, 1, 1, 1, 10);
        fails(x, 0, 1, 1, 9, 1, 10);
        fails(x, 1, 0, 1, 9, 1, 10);
        fails(x, 1, 5, 1, 9, 9, 10);
        // Round the whole ring in six days, if no wind fails: as far as if all do.
        fails(x, 0, 0, 6, 0, 1, 1);
        fails(x, 0, 0, 6, 10, 1, 1);
        fails(x, 0, 0, 6, 1, 265721, 500000);
        fails(x, 0, 1, 6, 9, 177147, 500000);
        fails(x, 0, 5, 5, 0, 1, 1);
        fails(x, 0, 5, 6, 1, 177147, 500000);
        fails(x, 2, 0, 6, 3, 1, 1);
        fails(x, 2, 1, 6, 3, 0, 1);
        fails(x, 3, 0, 3, 5, 1, 4);
        fails(x, 3, 2, 3, 5, 3, 8);
        fails(x, 3, 4, 3, 5, 3, 8);
        fails(x, 3, 5, 6, 5, 0, 1);
        x = Bounds.told("PW2W0C010C113");
        fails(x, 0, 5, 1, 4, 3, 5);
        fails(x, 0, 5, 2, 4, 3, 5);
        fails(x, 1, 5, 2, 4, 3, 5);
        x.day();
        fails(x, 0, 5, 1, 4, 1, 1);
        fails(x, 0, 4, 2, 4, 3, 5);
        fails(Bounds.told("PC590"), 0, 5, 6, 0, 1, 1);
    }

    private static void failsRefused() {
        for (int c : NO_CLOUDS) {
            Bounds.leavesAll(Bounds::busy, "fails(" + c + ", 0, 1, 0)", y -> y.fails(c, 0, 1, 0, true), UNKNOWN);
            Bounds.due("fails(" + c + ", 6, 0, 11)", Bounds.busy().fails(c, 6, 0, 11, false), UNKNOWN);
            Bounds.due("fails(" + c + ", 0, 0, 0)", Bounds.busy().fails(c, 0, 0, 0, true), UNKNOWN);
        }
        for (int yard : NO_YARDS) {
            Bounds.leavesAll(Bounds::busy, "fails(0, " + yard + ", 1, 0)", y -> y.fails(0, yard, 1, 0, false), UNKNOWN);
            Bounds.due("fails(0, " + yard + ", 7, 0)", Bounds.busy().fails(0, yard, 7, 0, true), UNKNOWN);
            Bounds.due("fails(0, " + yard + ", 1, 11)", Bounds.busy().fails(0, yard, 1, 11, true), UNKNOWN);
        }
        for (int n : new int[] {Bounds.LEAST, -1, 0, 7, 8, Bounds.GREATEST}) {
            Bounds.leavesAll(Bounds::busy, "fails(3, 5, " + n + ", 0)", y -> y.fails(3, 5, n, 0, true), OUTSIDE);
            Bounds.due("fails(0, 0, " + n + ", 10)", Bounds.busy().fails(0, 0, n, 10, false), OUTSIDE);
        }
        for (int x : new int[] {Bounds.LEAST, -1, 11, 12, Bounds.GREATEST}) {
            Bounds.leavesAll(Bounds::busy, "fails(0, 0, 1, " + x + ")", y -> y.fails(0, 0, 1, x, false), OUTSIDE);
            Bounds.due("fails(3, 5, 6, " + x + ")", Bounds.busy().fails(3, 5, 6, x, true), OUTSIDE);
        }
        Bounds.due("fails(1, 0, 1, 0) of one", Bounds.told("PC010").fails(1, 0, 1, 0, true), UNKNOWN);
        Bounds.leavesAll(Bounds::busy, "fails(2, 1, 6, 5)", y -> y.fails(2, 1, 6, 5, true), 1);
    }

    private static void seed() {
        PromisedSnow x = new PromisedSnow();
        long was = 0;
        for (long v : new long[] {1, -1, Long.MAX_VALUE, Long.MIN_VALUE, 4294967296L, 0, Long.MIN_VALUE, 0}) {
            Bounds.due("seed(" + v + ")", x.seed(v), was);
            was = v;
        }
        PromisedSnow busy = Bounds.busy();
        Bounds.due("the seed", busy.seed(5), 123456789);
        busy.undo();
        busy.again(1);
        busy.wipe();
        busy.unsee();
        Bounds.due("the seed stays", busy.seed(0), 5);
    }

    private static void seasonsMany() {
        long v = 0;
        for (int m = 1; m <= 30; m++) {
            v = v * 6364136223846793005L + 1442695040888963407L;
            PromisedSnow x = new PromisedSnow();
            Bounds.due("seasons(" + m + ")", x.seasons(m), 0);
            Bounds.due("the seed behind " + m, x.seed(0), v);
        }
        PromisedSnow x = new PromisedSnow();
        Bounds.due("seasons(0)", x.seasons(0), OUTSIDE);
        Bounds.due("seasons(31)", x.seasons(31), OUTSIDE);
        Bounds.due("the seed stays", x.seed(0), 0);
    }

    private static void seedGoesOn() {
        PromisedSnow x = new PromisedSnow();
        x.seasons(1);
        Bounds.due("from 0", x.seed(1), 1442695040888963407L);
        x.seasons(1);
        Bounds.due("from 1", x.seed(-1), 7806831264735756412L);
        x.seasons(1);
        Bounds.due("from -1", x.seed(Long.MIN_VALUE), -4921441182957829598L);
        x.seasons(1);
        // An odd number times 2 to the power of 63 wraps to that power.
        Bounds.due("from the least", x.seed(Long.MAX_VALUE), Long.MIN_VALUE + 1442695040888963407L);
        x.seasons(1);
        Bounds.due("from the greatest", x.seed(0), Long.MIN_VALUE - 4921441182957829598L);
        x.seasons(30);
        long v = 0;
        for (int i = 0; i < 30; i++) {
            v = v * 6364136223846793005L + 1442695040888963407L;
        }
        Bounds.due("30 times from 0", x.seed(0), v);
    }

    private static void draws() {
        String text = "PC090C090C090C090S0990S0990S0990S0990S0990";
        long[] uppers = {0, 19, 20, 27, 28, 47, 48, 1L << 30, (1L << 31) - 1};
        // 2 to the power of 30 leaves 8 by 28, one less than its double leaves 15.
        int[] lots = {0, 19, 20, 27, 0, 19, 20, 8, 15};
        for (int i = 0; i < uppers.length; i++) {
            for (long lower : new long[] {0, (1L << 33) - 1}) {
                PromisedSnow x = Bounds.told(text);
                long drawn = (uppers[i] << 33) + lower;
                x.seed(Bounds.seedAhead(drawn));
                Bounds.due("a season by " + drawn, x.seasons(1), lots[i] < 20 ? 1 : 0);
                Bounds.due("the seed then", x.seed(0), drawn);
            }
        }
        // One cloud and one paper alone can meet: what is drawn must be just these two.
        for (int cloud = 0; cloud < 4; cloud++) {
            for (int paper = 0; paper < 5; paper++) {
                PromisedSnow x = Bounds.told(meeting(cloud, paper));
                for (int lot = 0; lot < 28; lot++) {
                    x.seed(Bounds.seedOfDraw(lot));
                    Bounds.due("lot " + lot, x.seasons(1), lot == 5 * cloud + paper ? 1 : 0);
                }
            }
        }
        for (int lot = 0; lot < 28; lot++) {
            PromisedSnow x = Bounds.told("PS0190S0120");
            x.day();
            x.seed(Bounds.seedOfDraw(lot));
            Bounds.due("no clouds, lot " + lot, x.seasons(1), lot < 20 ? 0 : 11);
            x = Bounds.told("PC090");
            x.seed(Bounds.seedOfDraw(lot));
            Bounds.due("no papers, lot " + lot, x.seasons(1), 0);
        }
        fallsIfItCan();
    }

    private static String meeting(int cloud, int paper) {
        StringBuilder text = new StringBuilder("P");
        for (int c = 0; c < 4; c++) {
            text.append(c == cloud ? "C090" : "C190");
        }
        for (int p = 0; p < 5; p++) {
            text.append(p == paper ? "S0990" : "S2990");
        }
        return text.toString();
    }

    private static void fallsIfItCan() {
        String[] texts = {"PC011S0990", "PC091S0991", "PW1C090S0992", "PC190S0990", "PC021S0990", "PC010S0913"};
        int[] wants = {0, 0, 0, 0, 1, 1};
        for (int i = 0; i < texts.length; i++) {
            PromisedSnow x = Bounds.told(texts[i]);
            x.seed(Bounds.seedOfDraw(0));
            Bounds.due("a fall of " + texts[i], x.seasons(1), wants[i]);
        }
    }

    private static PromisedSnow settled() {
        // 3 are filled, and 5 umbrellas more: nothing else can come of any season.
        PromisedSnow x = Bounds.told("PC030S0180");
        Bounds.falls(x, 0, 0, 3);
        Bounds.days(x, 2);
        return x;
    }

    private static void seasons() {
        Bounds.due("seasons(1)", settled().seasons(1), 8);
        Bounds.due("seasons(2)", settled().seasons(2), 16);
        Bounds.due("seasons(29)", settled().seasons(29), 232);
        Bounds.due("seasons(30)", settled().seasons(30), 240);
        Bounds.due("without a pass", new PromisedSnow().seasons(30), 0);
        Bounds.leavesAll(SeenBoundsTests::settled, "seasons(30)", SeenBoundsTests::playedAndSeedPutBack, 0);
        Bounds.leavesAll(Bounds::busy, "seasons(30)", SeenBoundsTests::playedAndSeedPutBack, 123456789);
        Bounds.leavesAll(Bounds::full, "seasons(30)", SeenBoundsTests::playedAndSeedPutBack, -1);
    }

    /** Plays the seasons and puts the seed back: what it was. */
    private static long playedAndSeedPutBack(PromisedSnow x) {
        long was = x.seed(0);
        x.seed(was);
        x.seasons(30);
        x.seed(was);
        return was;
    }

    private static void seasonsRefused() {
        for (int m : new int[] {Bounds.LEAST, -1, 0, 31, 32, Bounds.GREATEST}) {
            Bounds.leavesAll(Bounds::busy, "seasons(" + m + ")", y -> y.seasons(m), OUTSIDE);
            Bounds.leavesAll(Bounds::full, "seasons(" + m + ")", y -> y.seasons(m), OUTSIDE);
            PromisedSnow x = new PromisedSnow();
            Bounds.due("seasons(" + m + ") without a pass", x.seasons(m), OUTSIDE);
            Bounds.due("the seed stays", x.seed(0), 0);
        }
    }
}
