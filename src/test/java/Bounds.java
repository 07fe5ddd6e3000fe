import java.io.IOException;
import java.nio.file.Files;
import java.nio.file.Path;
import java.util.ArrayList;
import java.util.List;
import java.util.function.Supplier;
import java.util.function.ToLongFunction;

/** What the tests of boundary cases share: the document's sentences, passes told, and all that a call may change. */
final class Bounds {
    static final int UNKNOWN = -1, OUTSIDE = -2, STATE = -3, FULL = -4, NONE = -9;
    static final int LEAST = Integer.MIN_VALUE, GREATEST = Integer.MAX_VALUE;

    // Four winds, four clouds and five papers: the longest text that is a pass.
    static final String LONGEST = "PW0W1W2W0C011C122C213C390S0110S1221S2332S3443S5993";

    private static final Path DOCUMENT = Path.of("../shared/DOC.md");

    private static String document = null;
    private static int passed = 0;
    private static int failed = 0;
    private static int wrong = 0;

    private Bounds() {
    }

    /** A test of one sentence, which must stand in the document as it is quoted. */
    static void sentence(int promise, String quote, Runnable test) {
        int before = wrong;
        if (!document().isEmpty() && !document().contains(quote)) {
            wrong++;
            System.out.println("the document has no such sentence");
        }
        try {
            test.run();
        } catch (RuntimeException e) {
            wrong++;
            System.out.println("threw " + e);
        }
        if (wrong == before) {
            passed++;
        } else {
            failed++;
            System.out.println("promise " + promise + ", '" + quote + "': broken");
        }
    }

    static void conclude() {
        System.out.println(passed + " passed, " + failed + " failed");
        if (failed != 0 || passed == 0) {
            System.exit(1);
        }
    }

    /** The document with single blanks; nothing, where it is not to be found (quotes are not looked up then). */
    private static String document() {
        if (document == null) {
            try {
                document = Files.exists(DOCUMENT) ? Files.readString(DOCUMENT).replaceAll("\\s+", " ") : "";
            } catch (IOException e) {
                document = "";
            }
        }
        return document;
    }

    static void due(String what, long got, long want) {
        if (got != want) {
            wrong++;
            System.out.println(what + " answered " + got + ", due is " + want);
        }
    }

    static PromisedSnow written(String text) {
        PromisedSnow x = new PromisedSnow();
        write(x, text);
        return x;
    }

    static void write(PromisedSnow x, String text) {
        for (int i = 0; i < text.length(); i++) {
            x.write(text.charAt(i));
        }
    }

    static PromisedSnow told(String text) {
        PromisedSnow x = written(text);
        if (x.pass() < 0) {
            throw new IllegalStateException("no pass: " + text);
        }
        return x;
    }

    static void days(PromisedSnow x, int n) {
        for (int i = 0; i < n; i++) {
            x.day();
        }
    }

    static void falls(PromisedSnow x, int cloud, int paper, int n) {
        for (int i = 0; i < n; i++) {
            x.fall(cloud, paper);
        }
    }

    static void puffs(PromisedSnow x, int cloud, boolean on, int n) {
        for (int i = 0; i < n; i++) {
            x.puff(cloud, on);
        }
    }

    /** A seed that the next of the seasons makes into x. */
    static long seedAhead(long x) {
        long inverse = 1;
        for (int i = 0; i < 6; i++) {
            inverse *= 2 - 6364136223846793005L * inverse;
        }
        return (x - 1442695040888963407L) * inverse;
    }

    /** A seed by which the next of the seasons draws this as its upper 31 bits. */
    static long seedOfDraw(long upper) {
        return seedAhead(upper << 33);
    }

    /** A pass in which nothing is as it was at first: acts, umbrellas, what is torn, filled, seen and kept. */
    static PromisedSnow busy() {
        PromisedSnow x = told("PW1W2W0C090C191C232C393S0590S1991S2343S3932S4150");
        x.see(1, 2);
        x.see(5, 9);
        x.seed(123456789);
        x.fall(0, 0);
        x.keep(0);
        x.tear(4);
        x.puff(2, false);
        x.day();
        x.puff(3, true);
        x.keep(1);
        days(x, 6);
        x.puff(1, false);
        return x;
    }

    /** Nothing more goes in: 52 letters (with a fault), 6 seen, 14 acts. */
    static PromisedSnow full() {
        PromisedSnow x = told(LONGEST);
        x.write('W');
        x.write('1');
        for (int i = 0; i < 6; i++) {
            x.see(i, i);
        }
        x.seed(-1);
        x.tear(4);
        days(x, 4);
        puffs(x, 0, true, 9);
        return x;
    }

    /** All that an object answers of itself; acts are undone and what is kept is gone on from, so it is spent then. */
    static List<Long> everything(PromisedSnow x) {
        List<Long> all = new ArrayList<>();
        all.add((long) x.fault());
        for (int what = 0; what <= 11; what++) {
            all.add((long) x.count(what));
        }
        for (int p = 0; p < 5; p++) {
            for (int what = 0; what <= 5; what++) {
                all.add((long) x.paper(p, what));
            }
            all.add((long) x.lacks(p));
        }
        for (int kind = 0; kind < 4; kind++) {
            all.add((long) x.began(kind));
        }
        clouds(x, all);
        all.add((long) x.most());
        all.add((long) x.puffs());
        all.add((long) x.umbrellas(20));
        all.add(x.seed(0));
        for (int left = x.undo(); left >= 0; left = x.undo()) {
            all.add((long) left);
            sky(x, all);
        }
        for (int slot = 0; slot < 2; slot++) {
            all.add((long) x.again(slot));
            sky(x, all);
        }
        all.add((long) x.unsee());
        all.add((long) x.wipe());
        return all;
    }

    private static void clouds(PromisedSnow x, List<Long> all) {
        for (int c = 0; c < 4; c++) {
            for (int what = 0; what <= 5; what++) {
                all.add((long) x.cloud(c, what));
            }
            all.add((long) x.where(c, 20));
        }
    }

    private static void sky(PromisedSnow x, List<Long> all) {
        for (int what = 4; what <= 10; what++) {
            all.add((long) x.count(what));
        }
        for (int c = 0; c < 4; c++) {
            all.add((long) x.cloud(c, 0));
            all.add((long) x.cloud(c, 1));
        }
    }

    /** A call answers so, and leaves all as it is on another object on which it was not made. */
    static void leavesAll(Supplier<PromisedSnow> made, String what, ToLongFunction<PromisedSnow> call, long want) {
        PromisedSnow x = made.get();
        due(what, call.applyAsLong(x), want);
        List<Long> got = everything(x);
        List<Long> asBefore = everything(made.get());
        if (!got.equals(asBefore)) {
            wrong++;
            System.out.println(what + " changed something: " + got + ", before it was " + asBefore);
        }
    }
}
