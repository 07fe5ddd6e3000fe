/** Boundary cases of promises 1 to 7: nothing at first, letters, the text, its faults, the pass, clouds and papers. */
public final class PassBoundsTests {
    private static final int UNKNOWN = Bounds.UNKNOWN, OUTSIDE = Bounds.OUTSIDE, STATE = Bounds.STATE;
    private static final int FULL = Bounds.FULL, NONE = Bounds.NONE;

    public static void main(String[] args) {
        Bounds.sentence(1, "public static final int UNKNOWN = -1, OUTSIDE = -2, STATE = -3, FULL = -4, NONE = -9;",
            PassBoundsTests::constants);
        Bounds.sentence(1, "At first there is nothing.", PassBoundsTests::nothingAtFirst);
        Bounds.sentence(1, "A clear sky.", PassBoundsTests::actsInAClearSky);
        Bounds.sentence(1, "An object is used for at most 512 calls", PassBoundsTests::lastCalls);
        Bounds.sentence(2, "A letter (0 to 255) comes behind THE TEXT: how long it is.", PassBoundsTests::letters);
        Bounds.sentence(2, "THE TEXT is letters (52 at most).", PassBoundsTests::lengths);
        Bounds.sentence(2, "OUTSIDE; FULL: there are 52.", PassBoundsTests::fullText);
        Bounds.sentence(3, "THE TEXT is empty: how long it was.", PassBoundsTests::wipe);
        Bounds.sentence(4, "A PASS is a TEXT: P, then PARTS, none or more", PassBoundsTests::heads);
        Bounds.sentence(4, "a WIND w: 0 still, 1 on (1 YARD more), 2 back (1 YARD less)", PassBoundsTests::windFigure);
        Bounds.sentence(4, "a CLOUD over YARD y, of f (1 to 9) FLAKES, of KIND k: 0 PLAIN, 1 SLEET, 2 STILL, 3 SWIFT",
            PassBoundsTests::cloudFigures);
        Bounds.sentence(4, "a PAPER for YARD y, due on DAY d (1 to 9), of a (1 to 9) FLAKES, of KIND k: 0 PLAIN, "
            + "1 GILT, 2 SOFT, 3 HALVED", PassBoundsTests::paperFigures);
        Bounds.sentence(4, "WINDS (4 at most), CLOUDS (4 at most), PAPERS (5 at most)", PassBoundsTests::mostParts);
        Bounds.sentence(4, "are numbered as they are told, each for itself", PassBoundsTests::eachForItself);
        Bounds.sentence(4, "FAULT: the place (from 0 on) of the first letter by which THE TEXT can be no PASS, "
            + "whatever came behind it (its length set aside)", PassBoundsTests::firstFault);
        Bounds.sentence(4, "its length, if it is only not at its end; NONE: none.", PassBoundsTests::everyBeginning);
        Bounds.sentence(5, "100 times WINDS, 10 times CLOUDS, and PAPERS. STATE: a FAULT.", PassBoundsTests::pass);
        Bounds.sentence(5, "THE TEXT (that stays as it is) is THE PASS", PassBoundsTests::textStays);
        Bounds.sentence(5, "(THE ROW of ACTS is empty, what was kept is gone; SEEN, THE SEED stay)",
            PassBoundsTests::whatAPassLeaves);
        Bounds.sentence(5, "When THE PASS is made anew, THE DAY is 0, nothing is FILLED, TORN, there are no UMBRELLAS.",
            PassBoundsTests::madeAnew);
        Bounds.sentence(6, "Of a CLOUD its YARD (what = 0), FLAKES (1), KIND (2), how many it HAS for all (3), PAPERS "
            + "on which it can let fall now (4: bits), that it CAN serve (5: bits). UNKNOWN; OUTSIDE.",
            PassBoundsTests::cloudAsked);
        Bounds.sentence(6, "It HAS as many for all as it has FLAKES (SLEET: half of them, cut).", PassBoundsTests::has);
        Bounds.sentence(6, "a CLOUD can let fall on a PAPER, if it is over its YARD, something is OWED, and it has a "
            + "FLAKE (SLEET: 2)", PassBoundsTests::canFallNow);
        Bounds.sentence(6, "if it will be over its YARD on THE DAY or on any one till it is due, that one, too",
            PassBoundsTests::canServeTillDue);
        Bounds.sentence(6, "(if nothing is PUFFED)", PassBoundsTests::canServeUnpuffed);
        Bounds.sentence(6, "something is OWED, it HAS one FLAKE for it at least (GILT: it is no SLEET), SOFT: on such "
            + "a DAY with a still WIND.", PassBoundsTests::canServeAtAll);
        Bounds.sentence(7, "Of a PAPER its YARD (what = 0), the DAY when it is due (1), KIND (2), what is FILLED (3), "
            + "OWED (4), 1 if it is TORN (5). UNKNOWN; OUTSIDE.", PassBoundsTests::paperAsked);
        Bounds.sentence(7, "its FLAKES (HALVED: half of them, cut, 1 at least) less what is FILLED",
            PassBoundsTests::owed);
        Bounds.sentence(7, "nothing, if it is TORN, or was due ahead of THE DAY.", PassBoundsTests::owedNothing);
        Bounds.conclude();
    }

    private static void constants() {
        Bounds.due("UNKNOWN", PromisedSnow.UNKNOWN, -1);
        Bounds.due("OUTSIDE", PromisedSnow.OUTSIDE, -2);
        Bounds.due("STATE", PromisedSnow.STATE, -3);
        Bounds.due("FULL", PromisedSnow.FULL, -4);
        Bounds.due("NONE", PromisedSnow.NONE, -9);
    }

    private static void nothingAtFirst() {
        PromisedSnow x = new PromisedSnow();
        for (int what = 0; what <= 11; what++) {
            Bounds.due("count(" + what + ")", x.count(what), 0);
        }
        Bounds.due("fault() of no text", x.fault(), 0);
        Bounds.due("pass() of no text", x.pass(), STATE);
        Bounds.due("wipe() of no text", x.wipe(), 0);
        Bounds.due("unsee() of nothing", x.unsee(), 0);
        Bounds.due("undo() of nothing", x.undo(), STATE);
        Bounds.due("again(0) of nothing", x.again(0), STATE);
        Bounds.due("again(1) of nothing", x.again(1), STATE);
        Bounds.due("the seed", x.seed(0), 0);
        Bounds.due("cloud(0, 0)", x.cloud(0, 0), UNKNOWN);
        Bounds.due("paper(0, 0)", x.paper(0, 0), UNKNOWN);
        Bounds.due("fall(0, 0)", x.fall(0, 0), UNKNOWN);
        Bounds.due("puff(0, true)", x.puff(0, true), UNKNOWN);
        Bounds.due("tear(0)", x.tear(0), UNKNOWN);
        Bounds.due("where(0, 0)", x.where(0, 0), UNKNOWN);
        Bounds.due("umbrellas(0)", x.umbrellas(0), 0);
        Bounds.due("umbrellas(20)", x.umbrellas(20), 0);
        Bounds.due("most()", x.most(), 0);
        Bounds.due("lacks(0)", x.lacks(0), UNKNOWN);
        Bounds.due("puffs()", x.puffs(), 0);
        for (int kind = 0; kind < 4; kind++) {
            Bounds.due("began(" + kind + ")", x.began(kind), 63);
        }
        Bounds.due("share(0, true)", x.share(0, true), UNKNOWN);
        Bounds.due("rests(0, 1, 0)", x.rests(0, 1, 0), UNKNOWN);
        Bounds.due("fails(0, 0, 1, 0, true)", x.fails(0, 0, 1, 0, true), UNKNOWN);
        Bounds.due("seasons(30)", x.seasons(30), 0);
    }

    private static void actsInAClearSky() {
        PromisedSnow x = new PromisedSnow();
        Bounds.due("judge(4, 0): four days", x.judge(4, 0), NONE);
        Bounds.due("judge(2, 100): no cloud behind a day", x.judge(2, 100), 1);
        Bounds.due("day()", x.day(), 0);
        Bounds.due("the day", x.count(4), 1);
        Bounds.due("keep(0)", x.keep(0), 1);
        Bounds.due("undo()", x.undo(), 0);
        Bounds.due("the day", x.count(4), 0);
        Bounds.due("undo() of nothing", x.undo(), STATE);
        Bounds.due("again(0)", x.again(0), 1);
        Bounds.due("see(5, 9)", x.see(5, 9), 1);
        Bounds.due("began(3) without winds", x.began(3), 32);
        PromisedSnow other = new PromisedSnow();
        Bounds.due("another's day", other.count(4), 0);
        Bounds.due("another's slot", other.again(0), STATE);
        Bounds.due("another has seen", other.count(11), 0);
    }

    private static void lastCalls() {
        PromisedSnow x = new PromisedSnow();
        Bounds.days(x, 511);
        Bounds.due("the day, by the last call", x.count(4), 511);
        x = Bounds.told("PW1C010");
        Bounds.days(x, 501);
        Bounds.due("acts", x.count(10), 14);
        Bounds.due("yard on day 501", x.cloud(0, 0), 3);
        Bounds.due("yard on day 521, by the last call", x.where(0, 20), 5);
    }

    private static void letters() {
        PromisedSnow x = new PromisedSnow();
        Bounds.due("write(0)", x.write(0), 1);
        Bounds.due("write(255)", x.write(255), 2);
        int[] others = {-1, 256, 'P' - 256, 'P' + 256, Bounds.LEAST, Bounds.GREATEST};
        for (int letter : others) {
            Bounds.due("write(" + letter + ")", x.write(letter), OUTSIDE);
            Bounds.leavesAll(Bounds::busy, "write(" + letter + ")", y -> y.write(letter), OUTSIDE);
        }
        Bounds.due("letters", x.count(0), 2);
        x.wipe();
        Bounds.due("write('P' + 256)", x.write('P' + 256), OUTSIDE);
        Bounds.due("fault()", x.fault(), 0);
        Bounds.due("write('P')", x.write('P'), 1);
        Bounds.due("fault()", x.fault(), NONE);
    }

    private static void lengths() {
        for (int letter : new int[] {0, 'P', 255}) {
            PromisedSnow x = new PromisedSnow();
            for (int n = 1; n <= 52; n++) {
                Bounds.due("write of letter " + n, x.write(letter), n);
                Bounds.due("letters", x.count(0), n);
            }
            for (int n = 53; n <= 60; n++) {
                Bounds.due("write of letter " + n, x.write(letter), FULL);
                Bounds.due("letters", x.count(0), 52);
            }
            Bounds.due("wipe()", x.wipe(), 52);
            Bounds.due("letters", x.count(0), 0);
        }
    }

    private static void fullText() {
        PromisedSnow x = Bounds.written(Bounds.LONGEST);
        Bounds.due("write of letter 51", x.write('W'), 51);
        Bounds.due("write of letter 52", x.write('W'), 52);
        Bounds.due("write of letter 53", x.write('W'), FULL);
        Bounds.due("write(0) when full", x.write(0), FULL);
        Bounds.due("write(255) when full", x.write(255), FULL);
        Bounds.due("write(256) when full", x.write(256), OUTSIDE);
        Bounds.due("write(-1) when full", x.write(-1), OUTSIDE);
        Bounds.due("letters", x.count(0), 52);
        Bounds.due("fault()", x.fault(), 50);
        Bounds.leavesAll(Bounds::full, "write('P') when full", y -> y.write('P'), FULL);
        Bounds.leavesAll(Bounds::full, "write(256) when full", y -> y.write(256), OUTSIDE);
        Bounds.due("wipe()", x.wipe(), 52);
        Bounds.due("write behind that", x.write('P'), 1);
    }

    private static void wipe() {
        PromisedSnow x = new PromisedSnow();
        Bounds.due("wipe() of none", x.wipe(), 0);
        x.write('P');
        Bounds.due("wipe() of one", x.wipe(), 1);
        Bounds.due("letters", x.count(0), 0);
        Bounds.due("fault()", x.fault(), 0);
        Bounds.due("wipe() again", x.wipe(), 0);
        Bounds.write(x, Bounds.LONGEST);
        x.pass();
        Bounds.due("wipe() of 50", x.wipe(), 50);
        Bounds.due("the pass stays", x.count(1) + x.count(2) + x.count(3), 13);
        Bounds.due("pass() of no text", x.pass(), STATE);
        Bounds.due("the pass stays", x.cloud(3, 1), 9);
    }

    private static void heads() {
        for (int letter = 0; letter <= 255; letter++) {
            Bounds.due("fault() of letter " + letter, Bounds.written("" + (char) letter).fault(),
                letter == 'P' ? NONE : 0);
            boolean part = letter == 'W' || letter == 'C' || letter == 'S';
            Bounds.due("fault() of P and letter " + letter, Bounds.written("P" + (char) letter).fault(),
                part ? 2 : 1);
            Bounds.due("fault() of PW1 and letter " + letter, Bounds.written("PW1" + (char) letter).fault(),
                part ? 4 : 3);
        }
        Bounds.due("pass() of no parts", Bounds.written("P").pass(), 0);
    }

    /** The figure of a text at a place, from its first letter to its last, and those beside them. */
    private static void figure(String text, int place, char low, char high) {
        char[] beside = {(char) (low - 1), low, high, (char) (high + 1)};
        for (char letter : beside) {
            String told = text.substring(0, place) + letter + text.substring(place + 1);
            boolean fits = letter >= low && letter <= high;
            Bounds.due("fault() of " + told, Bounds.written(told).fault(), fits ? NONE : place);
            Bounds.due("pass() of " + told, Bounds.written(told).pass(), fits ? 111 : STATE);
        }
    }

    private static void windFigure() {
        figure("PW1C011S1111", 2, '0', '2');
        figure("PC011S1111W1", 11, '0', '2');
    }

    private static void cloudFigures() {
        figure("PW1C011S1111", 4, '0', '5');
        figure("PW1C011S1111", 5, '1', '9');
        figure("PW1C011S1111", 6, '0', '3');
    }

    private static void paperFigures() {
        figure("PW1C011S1111", 8, '0', '5');
        figure("PW1C011S1111", 9, '1', '9');
        figure("PW1C011S1111", 10, '1', '9');
        figure("PW1C011S1111", 11, '0', '3');
    }

    private static void mostParts() {
        String[] parts = {"W1", "C111", "S1111"};
        int[] most = {4, 4, 5};
        int[] worth = {100, 10, 1};
        for (int i = 0; i < parts.length; i++) {
            for (int n = 0; n <= most[i]; n++) {
                PromisedSnow x = Bounds.written("P" + parts[i].repeat(n));
                Bounds.due("fault() of " + n + " times " + parts[i], x.fault(), NONE);
                Bounds.due("pass() of " + n + " times " + parts[i], x.pass(), n * worth[i]);
            }
            String text = "P" + parts[i].repeat(most[i] + 1);
            PromisedSnow x = Bounds.written(text);
            Bounds.due("fault() of " + text, x.fault(), text.length() - parts[i].length());
            Bounds.due("pass() of " + text, x.pass(), STATE);
        }
    }

    private static void eachForItself() {
        Bounds.due("fault() of the longest", Bounds.written(Bounds.LONGEST).fault(), NONE);
        Bounds.due("pass() of the longest", Bounds.written(Bounds.LONGEST).pass(), 445);
        Bounds.due("pass() of parts in turn", Bounds.written("PS0110C010W0S1110C110W1S2110C210W2S3110C310W0S4110")
            .pass(), 445);
        Bounds.due("fault() of a fifth wind behind all", Bounds.written(Bounds.LONGEST + "W0").fault(), 50);
        Bounds.due("fault() of a fifth wind ahead of clouds", Bounds.written("PW0W0W0W0W0C010").fault(), 9);
        PromisedSnow x = Bounds.told("PS5990W2C593S0110W1C010");
        Bounds.due("first cloud's yard", x.cloud(0, 0), 5);
        Bounds.due("last cloud's yard", x.cloud(1, 0), 0);
        Bounds.due("first paper's yard", x.paper(0, 0), 5);
        Bounds.due("last paper's yard", x.paper(1, 0), 0);
        Bounds.due("first wind", x.count(5), 2);
        x.day();
        Bounds.due("last wind", x.count(5), 1);
    }

    private static void firstFault() {
        String[] texts = {"", " P", "PPW", "PW3W3", "PW1 W3", "PC610", "PC000", "PC014", "PS6110", "PS0010", "PS0100",
            "PS0114", "PW1C0S", "PC011S011W", "PW11", "PC0111", "PS01111", "P" + (char) 0, "P" + (char) 255};
        int[] wants = {0, 0, 1, 2, 3, 2, 3, 4, 2, 3, 4, 5, 5, 9, 3, 5, 6, 1, 1};
        for (int i = 0; i < texts.length; i++) {
            Bounds.due("fault() of " + texts[i], Bounds.written(texts[i]).fault(), wants[i]);
        }
        for (String more : new String[] {"", "P", "W1", "zz"}) {
            Bounds.due("fault() with " + more + " behind it", Bounds.written("PC600" + more).fault(), 2);
        }
        PromisedSnow x = Bounds.written(Bounds.LONGEST);
        x.write('C');
        Bounds.due("fault() of 51 letters", x.fault(), 50);
        x.write('0');
        Bounds.due("fault() of 52 letters", x.fault(), 50);
        Bounds.leavesAll(Bounds::full, "fault()", PromisedSnow::fault, 50);
        Bounds.leavesAll(Bounds::busy, "fault()", PromisedSnow::fault, NONE);
    }

    /** Each beginning of the longest text: it is at its end behind P and behind each part. */
    private static void everyBeginning() {
        boolean[] ends = new boolean[51];
        for (int end : new int[] {1, 3, 5, 7, 9, 13, 17, 21, 25, 30, 35, 40, 45, 50}) {
            ends[end] = true;
        }
        for (int n = 0; n <= 50; n++) {
            PromisedSnow x = Bounds.written(Bounds.LONGEST.substring(0, n));
            Bounds.due("fault() of " + n + " letters", x.fault(), ends[n] ? NONE : n);
            Bounds.due("fault() of " + n + " letters, again", x.fault(), ends[n] ? NONE : n);
            if (!ends[n]) {
                Bounds.due("pass() of " + n + " letters", x.pass(), STATE);
            }
        }
    }

    private static void pass() {
        String[] texts = {"P", "PW1", "PC011", "PS0111", "PW0W0W0W0", Bounds.LONGEST};
        int[] wants = {0, 100, 10, 1, 400, 445};
        for (int i = 0; i < texts.length; i++) {
            Bounds.due("pass() of " + texts[i], Bounds.written(texts[i]).pass(), wants[i]);
        }
        Bounds.leavesAll(PromisedSnow::new, "pass() of no text", PromisedSnow::pass, STATE);
        Bounds.leavesAll(Bounds::full, "pass() of 52 letters", PromisedSnow::pass, STATE);
        for (String text : new String[] {"", "Q", "PW", "PW3", "PC01", "PS011", "PW1x"}) {
            Bounds.leavesAll(() -> busyWith(text), "pass() of " + text, PromisedSnow::pass, STATE);
        }
    }

    private static PromisedSnow busyWith(String text) {
        PromisedSnow x = Bounds.busy();
        x.wipe();
        Bounds.write(x, text);
        return x;
    }

    private static void textStays() {
        PromisedSnow x = Bounds.told("PC590");
        Bounds.due("letters", x.count(0), 5);
        Bounds.due("fault()", x.fault(), NONE);
        Bounds.due("pass() again", x.pass(), 10);
        Bounds.write(x, "C190");
        Bounds.due("the pass stays", x.count(2), 1);
        Bounds.due("no second cloud", x.cloud(1, 0), UNKNOWN);
        x.wipe();
        Bounds.due("the pass stays", x.cloud(0, 0), 5);
        x.write('P');
        Bounds.due("pass() of fewer", x.pass(), 0);
        Bounds.due("clouds", x.count(2), 0);
        Bounds.due("no first cloud", x.cloud(0, 0), UNKNOWN);
    }

    private static void whatAPassLeaves() {
        PromisedSnow x = Bounds.full();
        x.keep(0);
        x.keep(1);
        x.wipe();
        Bounds.write(x, Bounds.LONGEST);
        Bounds.due("acts", x.count(10), 14);
        Bounds.due("pass()", x.pass(), 445);
        Bounds.due("acts", x.count(10), 0);
        Bounds.due("undo()", x.undo(), STATE);
        Bounds.due("again(0)", x.again(0), STATE);
        Bounds.due("again(1)", x.again(1), STATE);
        Bounds.due("seen", x.count(11), 6);
        Bounds.due("the seed", x.seed(0), -1);
        Bounds.due("letters", x.count(0), 50);
        Bounds.days(x, 15);
        Bounds.due("acts", x.count(10), 14);
        Bounds.due("the first undone", x.undo(), 13);
    }

    private static void madeAnew() {
        PromisedSnow x = Bounds.told("PC590S5990S0150");
        x.fall(0, 0);
        Bounds.days(x, 2);
        x.tear(0);
        Bounds.due("umbrellas", x.count(8), 5);
        Bounds.due("pass() of the same text", x.pass(), 12);
        Bounds.due("the day", x.count(4), 0);
        Bounds.due("filled", x.count(7), 0);
        Bounds.due("torn", x.count(9), 0);
        Bounds.due("umbrellas", x.count(8), 0);
        Bounds.due("owed", x.count(6), 14);
        Bounds.due("flakes", x.cloud(0, 1), 9);
        x.fall(0, 0);
        x.fall(0, 0);
        x.pass();
        Bounds.due("filled", x.count(7) + x.paper(0, 3), 0);
        x.puff(0, true);
        x.pass();
        Bounds.due("yard", x.cloud(0, 0), 5);
    }

    private static void cloudAsked() {
        String[] texts = {"P", "PC593", "PC010C593", "PC010C010C593", "PC010C010C010C593"};
        for (int n = 0; n < texts.length; n++) {
            PromisedSnow x = Bounds.told(texts[n]);
            int unknown = n;
            for (int c : new int[] {Bounds.LEAST, -1, unknown, unknown + 1, Bounds.GREATEST}) {
                for (int what : new int[] {-1, 0, 5, 6}) {
                    Bounds.due("cloud(" + c + ", " + what + ") of " + n, x.cloud(c, what), UNKNOWN);
                }
            }
            if (n > 0) {
                int[] last = {5, 9, 3, 9, 0, 0};
                for (int what = 0; what <= 5; what++) {
                    Bounds.due("cloud(" + (n - 1) + ", " + what + ")", x.cloud(n - 1, what), last[what]);
                }
                for (int what : new int[] {Bounds.LEAST, -1, 6, Bounds.GREATEST}) {
                    Bounds.due("cloud(" + (n - 1) + ", " + what + ")", x.cloud(n - 1, what), OUTSIDE);
                }
            }
        }
        PromisedSnow x = Bounds.told("PC010C593");
        int[] first = {0, 1, 0, 1, 0, 0};
        for (int what = 0; what <= 5; what++) {
            Bounds.due("cloud(0, " + what + ")", x.cloud(0, what), first[what]);
        }
    }

    private static void has() {
        for (int flakes = 1; flakes <= 9; flakes++) {
            PromisedSnow x = Bounds.told("PC0" + flakes + "0C0" + flakes + "1C0" + flakes + "2C0" + flakes + "3");
            int[] wants = {flakes, new int[] {0, 0, 1, 1, 2, 2, 3, 3, 4, 4}[flakes], flakes, flakes};
            for (int c = 0; c < 4; c++) {
                Bounds.due("cloud(" + c + ", 3) of " + flakes, x.cloud(c, 3), wants[c]);
            }
        }
        PromisedSnow x = Bounds.told("PC010C031S0990");
        x.fall(0, 0);
        Bounds.due("has none any more", x.cloud(0, 3), 0);
        x.fall(1, 0);
        Bounds.due("one flake of sleet", x.cloud(1, 3), 0);
    }

    private static void canFallNow() {
        PromisedSnow x = Bounds.told("PC090C590S0910S0920S0130S0940S0990");
        Bounds.due("all five", x.cloud(0, 4), 31);
        Bounds.due("beside them over the ring", x.cloud(1, 4), 0);
        x.fall(0, 0);
        Bounds.due("nothing is owed of the first", x.cloud(0, 4), 30);
        x.tear(4);
        Bounds.due("the last is torn", x.cloud(0, 4), 14);
        x.day();
        Bounds.due("on the day when it is due", x.cloud(0, 4), 14);
        x.day();
        Bounds.due("behind it", x.cloud(0, 4), 10);
        x = Bounds.told("PC020C031C011S0990");
        Bounds.due("two flakes", x.cloud(0, 4), 1);
        Bounds.due("three of sleet", x.cloud(1, 4), 1);
        Bounds.due("one of sleet", x.cloud(2, 4), 0);
        x.fall(0, 0);
        Bounds.due("the last flake", x.cloud(0, 4), 1);
        x.fall(0, 0);
        Bounds.due("no flake", x.cloud(0, 4), 0);
        x.fall(1, 0);
        Bounds.due("one of sleet is left", x.cloud(1, 4), 0);
        x = Bounds.told("PW0W1W2C091C090C192C093S0991S0992");
        int[] still = {2, 3, 0, 3};
        for (int c = 0; c < 4; c++) {
            Bounds.due("on a still day, cloud " + c, x.cloud(c, 4), still[c]);
        }
        x.day();
        Bounds.due("wind on: gilt takes", x.cloud(1, 4), 1);
        Bounds.due("wind on: sleet has none", x.cloud(0, 4), 0);
        Bounds.puffs(x, 1, false, 1);
        x.day();
        Bounds.due("wind back: gilt takes", x.cloud(1, 4), 1);
        Bounds.due("no winds: soft takes", Bounds.told("PC090S0992").cloud(0, 4), 1);
        Bounds.leavesAll(Bounds::busy, "cloud(0, 4)", y -> y.cloud(0, 4), 2);
    }

    private static void canServeTillDue() {
        // Wind on each day: cloud 0 is over yard n on day n (n up to 5), and over the ring from 5 on.
        PromisedSnow x = Bounds.told("PW1C090S0190S1190S2190S3390S4390");
        Bounds.due("now, on the day when due, not behind it", x.cloud(0, 5), 1 | 2 | 8);
        x.day();
        Bounds.due("on day 1", x.cloud(0, 5), 2 | 8);
        x.day();
        Bounds.due("on day 2", x.cloud(0, 5), 8);
        x.day();
        Bounds.due("on day 3", x.cloud(0, 5), 8);
        x.day();
        Bounds.due("on day 4", x.cloud(0, 5), 0);
        x = Bounds.told("PW1C490C493C492S1990S0190S0290S3410S3510");
        Bounds.due("over the ring", x.cloud(0, 5), 1 | 4 | 16);
        Bounds.due("swift over the ring", x.cloud(1, 5), 2 | 4);
        Bounds.due("still", x.cloud(2, 5), 0);
        x = Bounds.told("PW2C190C193S0110S5110S5210S2510S2410");
        Bounds.due("back over the ring", x.cloud(0, 5), 1 | 4 | 8);
        Bounds.due("swift back over the ring", x.cloud(1, 5), 2 | 4);
        // Wind on the days 2, 5 and 8: over 0 on day 9 for the first time.
        x = Bounds.told("PW0W0W1C390S0990S0890");
        Bounds.due("on day 9, not on day 8", x.cloud(0, 5), 1);
        x = Bounds.told("PC090S0190S1990");
        Bounds.due("no winds", x.cloud(0, 5), 1);
        Bounds.days(x, 9);
        x.puff(0, true);
        Bounds.due("on the last day", x.cloud(0, 5), 2);
        x.day();
        Bounds.due("behind the last day", x.cloud(0, 5), 0);
    }

    private static void canServeUnpuffed() {
        PromisedSnow x = Bounds.told("PC590C190S0990");
        Bounds.due("a puff on is between", x.cloud(0, 5), 0);
        Bounds.due("a puff back is between", x.cloud(1, 5), 0);
        x.puff(0, true);
        x.puff(1, false);
        Bounds.due("puffed on", x.cloud(0, 5), 1);
        Bounds.due("puffed back", x.cloud(1, 5), 1);
        x.puff(0, true);
        Bounds.due("puffed by", x.cloud(0, 5), 0);
        // By the wind it is over 1 on day 1; puffed on, it is there now, and over 2 then.
        x = Bounds.told("PW1C090S1190S2190S0190");
        Bounds.due("by the wind alone", x.cloud(0, 5), 1 | 4);
        x.puff(0, true);
        Bounds.due("puffed on, then by the wind", x.cloud(0, 5), 1 | 2);
    }

    private static void canServeAtAll() {
        PromisedSnow x = Bounds.told("PC020C021C011S0910S0991");
        Bounds.due("plain", x.cloud(0, 5), 3);
        Bounds.due("two of sleet", x.cloud(1, 5), 1);
        Bounds.due("one of sleet", x.cloud(2, 5), 0);
        x.fall(1, 0);
        Bounds.due("nothing is owed", x.cloud(0, 5), 2);
        x.fall(0, 1);
        Bounds.due("one flake", x.cloud(0, 5), 2);
        x.fall(0, 1);
        Bounds.due("no flake", x.cloud(0, 5), 0);
        // Over 0, 0, 1, 1, 2 on the days 0 to 4: still on 0, 2 and 4.
        x = Bounds.told("PW0W1C090S0112S1112S1212S2312S2412");
        Bounds.due("soft, on still days till due", x.cloud(0, 5), 1 | 4 | 16);
        x.day();
        Bounds.due("soft, from a day in wind on", x.cloud(0, 5), 4 | 16);
        x = Bounds.told("PW1W2C090S0992S5912S1912");
        Bounds.due("soft, never still", x.cloud(0, 5), 0);
        Bounds.due("soft, no winds", Bounds.told("PC090S0992").cloud(0, 5), 1);
        Bounds.due("all five", Bounds.told("PC010S0110S0110S0110S0110S0110").cloud(0, 5), 31);
    }

    private static void paperAsked() {
        String[] texts = {"P", "PS5993", "PS0110S5993", "PS0110S0110S5993", "PS0110S0110S0110S5993",
            "PS0110S0110S0110S0110S5993"};
        for (int n = 0; n < texts.length; n++) {
            PromisedSnow x = Bounds.told(texts[n]);
            for (int p : new int[] {Bounds.LEAST, -1, n, n + 1, Bounds.GREATEST}) {
                for (int what : new int[] {-1, 0, 5, 6}) {
                    Bounds.due("paper(" + p + ", " + what + ") of " + n, x.paper(p, what), UNKNOWN);
                }
            }
            if (n > 0) {
                int[] last = {5, 9, 3, 0, 4, 0};
                for (int what = 0; what <= 5; what++) {
                    Bounds.due("paper(" + (n - 1) + ", " + what + ")", x.paper(n - 1, what), last[what]);
                }
                for (int what : new int[] {Bounds.LEAST, -1, 6, Bounds.GREATEST}) {
                    Bounds.due("paper(" + (n - 1) + ", " + what + ")", x.paper(n - 1, what), OUTSIDE);
                }
            }
        }
        PromisedSnow x = Bounds.told("PS0110S5993");
        int[] first = {0, 1, 0, 0, 1, 0};
        for (int what = 0; what <= 5; what++) {
            Bounds.due("paper(0, " + what + ")", x.paper(0, what), first[what]);
        }
    }

    private static void owed() {
        for (int flakes = 1; flakes <= 9; flakes++) {
            PromisedSnow x = Bounds.told("PS09" + flakes + "0S09" + flakes + "1S09" + flakes + "2S09" + flakes + "3");
            int[] wants = {flakes, flakes, flakes, new int[] {0, 1, 1, 1, 2, 2, 3, 3, 4, 4}[flakes]};
            for (int p = 0; p < 4; p++) {
                Bounds.due("paper(" + p + ", 4) of " + flakes, x.paper(p, 4), wants[p]);
            }
        }
        PromisedSnow x = Bounds.told("PC090C090S0990S0933");
        for (int left = 8; left >= 0; left--) {
            x.fall(0, 0);
            Bounds.due("owed", x.paper(0, 4), left);
            Bounds.due("filled", x.paper(0, 3), 9 - left);
        }
        x.fall(1, 1);
        Bounds.due("halved: owed", x.paper(1, 4), 0);
        Bounds.due("halved: filled", x.paper(1, 3), 1);
    }

    private static void owedNothing() {
        PromisedSnow x = Bounds.told("PC090S0190S0990S0990");
        x.fall(0, 0);
        x.day();
        Bounds.due("on the day when it is due", x.paper(0, 4), 8);
        x.day();
        Bounds.due("a day behind", x.paper(0, 4), 0);
        Bounds.due("filled stays", x.paper(0, 3), 1);
        Bounds.due("it is not torn", x.paper(0, 5), 0);
        x.fall(0, 1);
        x.tear(1);
        Bounds.due("torn", x.paper(1, 5), 1);
        Bounds.due("torn: owed", x.paper(1, 4), 0);
        Bounds.due("torn: filled", x.paper(1, 3), 0);
        Bounds.days(x, 7);
        Bounds.due("on day 9", x.paper(2, 4), 9);
        x.day();
        Bounds.due("on day 10", x.paper(2, 4), 0);
        Bounds.days(x, 10);
        Bounds.due("on day 20", x.count(6), 0);
    }
}
