import java.util.Random;

/** Runs of 512 calls by chance (the same ones each time), answered by PromisedSnow and by PlainSnow alike. */
public final class OracleTests {
    private static final int RUNS = 3000;
    // What an object answers behind its 512th call is free.
    private static final int CALLS = 512;
    private static final int CALLS_OF_A_PASS = 70;
    private static final int[] ODD = {Integer.MIN_VALUE, -1, 6, 7, 10, 11, 21, 31, 52, 255, 256, Integer.MAX_VALUE};

    private final Random chance;
    private final PromisedSnow x = new PromisedSnow();
    private final PlainSnow plain = new PlainSnow();
    private final StringBuilder calls = new StringBuilder();
    private int made = 0;
    private boolean same = true;

    private OracleTests(long seed) {
        chance = new Random(seed);
    }

    public static void main(String[] args) {
        int failed = 0;
        for (int run = 0; run < RUNS && failed < 5; run++) {
            OracleTests test = new OracleTests(run);
            if (!test.agrees()) {
                failed++;
                System.out.println("run " + run + ":" + test.calls);
            }
        }
        System.out.println(RUNS - failed + " passed, " + failed + " failed");
        if (failed != 0) {
            System.exit(1);
        }
    }

    private boolean agrees() {
        while (made < CALLS && same) {
            if (made == 0 || made + CALLS_OF_A_PASS <= CALLS && chance.nextInt(120) == 0) {
                tellPass();
            } else {
                call(chance.nextInt(60));
            }
        }
        return same;
    }

    private void same(String call, long got, long want) {
        made++;
        calls.append(' ').append(call).append('=').append(got);
        if (got != want) {
            same = false;
            calls.append(", due is ").append(want);
        }
    }

    /** A number below a bound, now and then an odd one. */
    private int below(int bound) {
        return chance.nextInt(40) == 0 ? ODD[chance.nextInt(ODD.length)] : chance.nextInt(bound);
    }

    private char figure(int low, int high) {
        return (char) ('0' + low + chance.nextInt(high - low + 1));
    }

    private String part() {
        // Few yards and late days, so that clouds and papers meet.
        int yards = chance.nextBoolean() ? 5 : 2;
        switch (chance.nextInt(5)) {
            case 0:
                return "W" + figure(0, 2);
            case 1:
            case 2:
                return "C" + figure(0, yards) + figure(1, 9) + figure(0, 3);
            default:
                return "S" + figure(0, yards) + figure(1, 9) + figure(1, 9) + figure(0, 3);
        }
    }

    private void tellPass() {
        StringBuilder text = new StringBuilder("P");
        int parts = chance.nextInt(14);
        int[] left = {4, 4, 5};
        boolean heedless = chance.nextInt(10) == 0;
        for (int i = 0; i < parts; i++) {
            String part = part();
            int kind = "WCS".indexOf(part.charAt(0));
            if (left[kind] > 0 || heedless) {
                left[kind]--;
                text.append(part);
            }
        }
        if (chance.nextInt(8) == 0) {
            text.setCharAt(chance.nextInt(text.length()), (char) chance.nextInt(256));
        } else if (chance.nextInt(8) == 0) {
            text.setLength(chance.nextInt(text.length()));
        }
        same("wipe()", x.wipe(), plain.wipe());
        for (int i = 0; i < text.length(); i++) {
            same("write(" + (int) text.charAt(i) + ")", x.write(text.charAt(i)), plain.write(text.charAt(i)));
        }
        same("fault()", x.fault(), plain.fault());
        same("pass()", x.pass(), plain.pass());
    }

    private void call(int which) {
        if (which < 20) {
            act();
        } else if (which < 40) {
            look();
        } else {
            reckon();
        }
    }

    private void act() {
        int c = below(4);
        int p = below(5);
        boolean on = chance.nextBoolean();
        switch (chance.nextInt(12)) {
            case 0, 1 -> same("day()", x.day(), plain.day());
            case 2, 3, 4, 5 -> same("fall(" + c + ", " + p + ")", x.fall(c, p), plain.fall(c, p));
            case 6, 7 -> same("puff(" + c + ", " + on + ")", x.puff(c, on), plain.puff(c, on));
            case 8 -> same("tear(" + p + ")", x.tear(p), plain.tear(p));
            case 9, 10 -> same("undo()", x.undo(), plain.undo());
            default -> slots();
        }
    }

    private void slots() {
        int slot = below(2);
        switch (chance.nextInt(3)) {
            case 0 -> same("keep(" + slot + ")", x.keep(slot), plain.keep(slot));
            case 1 -> same("again(" + slot + ")", x.again(slot), plain.again(slot));
            default -> same("write(" + slot + ")", x.write(slot), plain.write(slot));
        }
    }

    private void look() {
        int c = below(4);
        int p = below(5);
        int what = below(6);
        int n = below(21);
        switch (chance.nextInt(6)) {
            case 0, 1 -> same("cloud(" + c + ", " + what + ")", x.cloud(c, what), plain.cloud(c, what));
            case 2 -> same("paper(" + p + ", " + what + ")", x.paper(p, what), plain.paper(p, what));
            case 3 -> same("where(" + c + ", " + n + ")", x.where(c, n), plain.where(c, n));
            case 4 -> same("umbrellas(" + n + ")", x.umbrellas(n), plain.umbrellas(n));
            default -> {
                int counted = below(12);
                same("count(" + counted + ")", x.count(counted), plain.count(counted));
            }
        }
    }

    private void reckon() {
        int c = below(4);
        int d = below(4);
        int p = below(5);
        int y = below(6);
        boolean upper = chance.nextBoolean();
        switch (chance.nextInt(12)) {
            case 0 -> same("most()", x.most(), plain.most());
            case 1 -> same("lacks(" + p + ")", x.lacks(p), plain.lacks(p));
            case 2 -> same("puffs()", x.puffs(), plain.puffs());
            case 3, 4 -> judge();
            case 5, 6 -> sight();
            case 7 -> same("share(" + c + ", " + upper + ")", x.share(c, upper), plain.share(c, upper));
            case 8, 9 -> {
                int what = below(2);
                same("rests(" + c + ", " + d + ", " + what + ")", x.rests(c, d, what), plain.rests(c, d, what));
            }
            case 10 -> {
                int n = below(7);
                int t = below(11);
                same("fails(" + c + ", " + y + ", " + n + ", " + t + ", " + upper + ")",
                    x.fails(c, y, n, t, upper), plain.fails(c, y, n, t, upper));
            }
            default -> season();
        }
    }

    private void judge() {
        int n = below(5);
        long row = 0;
        for (int i = 0; i < n && i < 4; i++) {
            int[] doing = {chance.nextInt(5), chance.nextInt(4), chance.nextInt(5)};
            if (doing[0] == 0 && chance.nextInt(8) != 0) {
                doing = new int[3];
            } else if (doing[0] == 2 && chance.nextInt(8) != 0) {
                doing[2] %= 2;
            } else if (doing[0] == 3 && chance.nextInt(8) != 0) {
                doing[1] = 0;
            }
            row = row * 1000 + 100 * doing[0] + 10 * doing[1] + doing[2];
        }
        row = chance.nextInt(30) == 0 ? chance.nextLong() : chance.nextInt(20) == 0 ? row + 1000000 : row;
        same("judge(" + n + ", " + row + ")", x.judge(n, row), plain.judge(n, row));
    }

    private void sight() {
        int y = below(6);
        int n = below(10);
        switch (chance.nextInt(4)) {
            case 0 -> same("see(" + y + ", " + n + ")", x.see(y, n), plain.see(y, n));
            case 1 -> same("unsee()", x.unsee(), plain.unsee());
            default -> {
                int kind = below(4);
                same("began(" + kind + ")", x.began(kind), plain.began(kind));
            }
        }
    }

    private void season() {
        long v = chance.nextLong();
        int m = below(31);
        if (chance.nextInt(3) == 0) {
            same("seed(" + v + ")", x.seed(v), plain.seed(v));
        } else {
            same("seasons(" + m + ")", x.seasons(m), plain.seasons(m));
        }
    }
}
