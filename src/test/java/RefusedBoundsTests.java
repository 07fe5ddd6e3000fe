import java.util.function.ToLongFunction;

/** Refusals at once: of several the first that a call names, and what is refused changes nothing. */
public final class RefusedBoundsTests {
    private static final int UNKNOWN = Bounds.UNKNOWN, OUTSIDE = Bounds.OUTSIDE, STATE = Bounds.STATE;
    private static final int FULL = Bounds.FULL;

    public static void main(String[] args) {
        Bounds.sentence(2, "REFUSALS, of several the first that a call names: UNKNOWN (there is no such CLOUD, PAPER, "
            + "YARD (0 to 5), SLOT), OUTSIDE (another number is not as told), STATE (as told), FULL.",
            RefusedBoundsTests::inOrder);
        Bounds.sentence(6, "(there is no such CLOUD, PAPER, YARD (0 to 5), SLOT)", RefusedBoundsTests::noSuch);
        Bounds.sentence(9, "What is refused changes nothing. NONE is -9.", RefusedBoundsTests::nothingIsChanged);
        Bounds.conclude();
    }

    private static void everywhere(String what, ToLongFunction<PromisedSnow> call, long want) {
        Bounds.leavesAll(PromisedSnow::new, what + " of nothing", call, want);
        Bounds.leavesAll(Bounds::busy, what, call, want);
        Bounds.leavesAll(Bounds::full, what + " when full", call, want);
    }

    private static void inOrder() {
        everywhere("write(256)", x -> x.write(256), OUTSIDE);
        everywhere("cloud(4, 6)", x -> x.cloud(4, 6), UNKNOWN);
        everywhere("cloud(-1, -1)", x -> x.cloud(-1, -1), UNKNOWN);
        everywhere("paper(5, 6)", x -> x.paper(5, 6), UNKNOWN);
        everywhere("paper(-1, -1)", x -> x.paper(-1, -1), UNKNOWN);
        everywhere("fall(4, 0)", x -> x.fall(4, 0), UNKNOWN);
        everywhere("fall(0, 5)", x -> x.fall(0, 5), UNKNOWN);
        everywhere("fall(4, 5)", x -> x.fall(4, 5), UNKNOWN);
        everywhere("where(4, 21)", x -> x.where(4, 21), UNKNOWN);
        everywhere("where(-1, -1)", x -> x.where(-1, -1), UNKNOWN);
        everywhere("judge(0, -1)", x -> x.judge(0, -1), OUTSIDE);
        everywhere("see(6, 10)", x -> x.see(6, 10), UNKNOWN);
        everywhere("see(-1, -1)", x -> x.see(-1, -1), UNKNOWN);
        everywhere("see(5, 10)", x -> x.see(5, 10), OUTSIDE);
        everywhere("see(6, 0)", x -> x.see(6, 0), UNKNOWN);
        everywhere("rests(4, 4, 0)", x -> x.rests(4, 4, 0), UNKNOWN);
        everywhere("rests(4, 4, 2)", x -> x.rests(4, 4, 2), UNKNOWN);
        everywhere("rests(0, 4, 2)", x -> x.rests(0, 4, 2), UNKNOWN);
        everywhere("rests(-1, 0, -1)", x -> x.rests(-1, 0, -1), UNKNOWN);
        everywhere("fails(4, 6, 0, 11)", x -> x.fails(4, 6, 0, 11, true), UNKNOWN);
        everywhere("fails(0, 6, 0, 0)", x -> x.fails(0, 6, 0, 0, false), UNKNOWN);
        everywhere("fails(4, 0, 1, 11)", x -> x.fails(4, 0, 1, 11, false), UNKNOWN);
        everywhere("again(2)", x -> x.again(2), UNKNOWN);
        Bounds.leavesAll(Bounds::busy, "rests(0, 0, 2)", x -> x.rests(0, 0, 2), OUTSIDE);
        Bounds.leavesAll(Bounds::busy, "fails(0, 5, 0, 11)", x -> x.fails(0, 5, 0, 11, true), OUTSIDE);
        Bounds.leavesAll(Bounds::busy, "fails(0, 5, 7, -1)", x -> x.fails(0, 5, 7, -1, true), OUTSIDE);
        Bounds.leavesAll(Bounds::full, "see(0, 10) when full", x -> x.see(0, 10), OUTSIDE);
        Bounds.leavesAll(Bounds::full, "tear(5) when another is torn", x -> x.tear(5), UNKNOWN);
    }

    private static void noSuch() {
        for (int none : new int[] {-1, 4, Bounds.LEAST, Bounds.GREATEST}) {
            everywhere("cloud(" + none + ", 0)", x -> x.cloud(none, 0), UNKNOWN);
            everywhere("puff(" + none + ", true)", x -> x.puff(none, true), UNKNOWN);
            everywhere("where(" + none + ", 0)", x -> x.where(none, 0), UNKNOWN);
            everywhere("share(" + none + ", true)", x -> x.share(none, true), UNKNOWN);
            everywhere("rests(" + none + ", 0, 0)", x -> x.rests(none, 0, 0), UNKNOWN);
            everywhere("fails(" + none + ", 0, 1, 0)", x -> x.fails(none, 0, 1, 0, true), UNKNOWN);
        }
        for (int none : new int[] {-1, 5, Bounds.LEAST, Bounds.GREATEST}) {
            everywhere("paper(" + none + ", 0)", x -> x.paper(none, 0), UNKNOWN);
            everywhere("tear(" + none + ")", x -> x.tear(none), UNKNOWN);
            everywhere("lacks(" + none + ")", x -> x.lacks(none), UNKNOWN);
        }
        for (int none : new int[] {-1, 2, Bounds.LEAST, Bounds.GREATEST}) {
            everywhere("keep(" + none + ")", x -> x.keep(none), UNKNOWN);
            everywhere("again(" + none + ")", x -> x.again(none), UNKNOWN);
        }
        // A pass of one cloud and one paper has no second ones, whatever an earlier pass had.
        PromisedSnow x = Bounds.told(Bounds.LONGEST);
        x.wipe();
        Bounds.write(x, "PC090S0990");
        Bounds.due("pass()", x.pass(), 11);
        Bounds.due("cloud(1, 0)", x.cloud(1, 0), UNKNOWN);
        Bounds.due("paper(1, 0)", x.paper(1, 0), UNKNOWN);
        Bounds.due("fall(0, 1)", x.fall(0, 1), UNKNOWN);
        Bounds.due("fall(1, 0)", x.fall(1, 0), UNKNOWN);
        Bounds.due("puff(1, true)", x.puff(1, true), UNKNOWN);
        Bounds.due("tear(1)", x.tear(1), UNKNOWN);
        Bounds.due("where(1, 0)", x.where(1, 0), UNKNOWN);
        Bounds.due("lacks(1)", x.lacks(1), UNKNOWN);
        Bounds.due("share(1, true)", x.share(1, true), UNKNOWN);
        Bounds.due("rests(0, 1, 0)", x.rests(0, 1, 0), UNKNOWN);
        Bounds.due("fails(1, 0, 1, 0, true)", x.fails(1, 0, 1, 0, true), UNKNOWN);
        Bounds.due("judge(1, 210)", x.judge(1, 210), 0);
        Bounds.due("owed in all", x.count(6), 9);
        Bounds.due("most()", x.most(), 9);
        Bounds.due("umbrellas(20)", x.umbrellas(20), 9);
        Bounds.due("winds", x.count(5) + x.where(0, 20), 0);
    }

    private static void nothingIsChanged() {
        Bounds.leavesAll(Bounds::full, "write(87)", x -> x.write('W'), FULL);
        Bounds.leavesAll(Bounds::full, "pass()", PromisedSnow::pass, STATE);
        Bounds.leavesAll(PromisedSnow::new, "pass()", PromisedSnow::pass, STATE);
        Bounds.leavesAll(Bounds::full, "fall(0, 4)", x -> x.fall(0, 4), STATE);
        Bounds.leavesAll(Bounds::busy, "fall(3, 4)", x -> x.fall(3, 4), STATE);
        Bounds.leavesAll(Bounds::full, "tear(4)", x -> x.tear(4), STATE);
        Bounds.leavesAll(PromisedSnow::new, "undo()", PromisedSnow::undo, STATE);
        Bounds.leavesAll(Bounds::full, "see(5, 5)", x -> x.see(5, 5), FULL);
        Bounds.leavesAll(Bounds::full, "again(1)", x -> x.again(1), STATE);
        Bounds.leavesAll(Bounds::full, "seasons(31)", x -> x.seasons(31), OUTSIDE);
        Bounds.leavesAll(Bounds::full, "rests(0, 0, 0)", x -> x.rests(0, 0, 0), OUTSIDE);
        Bounds.leavesAll(Bounds::full, "cloud(0, 6)", x -> x.cloud(0, 6), OUTSIDE);
        Bounds.leavesAll(Bounds::full, "paper(0, -1)", x -> x.paper(0, -1), OUTSIDE);
        Bounds.leavesAll(Bounds::full, "count(12)", x -> x.count(12), OUTSIDE);
        // Refused one behind the other: none is an act, and the first act is not forgotten for any.
        PromisedSnow x = Bounds.full();
        Bounds.due("refused calls", x.fall(0, 4) + x.tear(4) + x.puff(4, true) + x.fall(4, 0) + x.again(0),
            3 * STATE + 2 * UNKNOWN);
        for (int i = 13; i >= 0; i--) {
            Bounds.due("undo()", x.undo(), i);
        }
        Bounds.due("undo() of none", x.undo(), STATE);
        Bounds.due("the first act is undone, too", x.count(9), 0);
    }
}
