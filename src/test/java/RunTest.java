/** Promises 22 to 24 and 35 to 37: runs, figures, and whether all is sound. */
public final class RunTest {
    private static final int MODULUS = 1000003;

    private RunTest() {
    }

    public static void main(String[] args) {
        refused();
        noCode();
        orderOfCalls();
        callsThatGoToNoCode();
        endlessChain();
        endlessLoop();
        nothingBehindTheLast();
        foldedRun();
        islandRun();
        figures();
        Check.end();
    }

    private static LinkerYard yard(int... contents) {
        LinkerYard yard = new LinkerYard();
        yard.addObject(false);
        for (int content : contents) {
            int section = yard.addSection(0, true, 8, 1, content, false);
            yard.define(section, section, section % 8, 's');
        }
        return yard;
    }

    private static int output(int... contents) {
        int output = 0;
        for (int content : contents) {
            output = (31 * output + content) % MODULUS;
        }
        return output;
    }

    private static void dueRun(String what, LinkerYard yard, int output, int steps) {
        Check.due("9: it links, " + what, '-', () -> yard.link(0));
        Check.due("22: " + what, output, yard::run);
        Check.due("23: " + what, output, yard::runPlain);
        Check.due("24: " + what, steps, yard::steps);
        Check.due("37: " + what, true, yard::isSound);
    }

    private static void refused() {
        LinkerYard yard = yard(1);
        Check.dueBadState("22: no link", yard::run);
        Check.dueBadState("23: no link", yard::runPlain);
        Check.dueBadState("24: no link", yard::steps);
        Check.dueBadState("35: no link", yard::laidShare);
        Check.dueBadState("36: no link", yard::meanSize);
        Check.dueBadState("37: no link", yard::isSound);
        LinkerYard empty = new LinkerYard();
        Check.dueBadState("35: no link ahead of no sections", empty::laidShare);
        Check.dueBadState("36: no link ahead of none", empty::meanSize);
    }

    private static void noCode() {
        LinkerYard common = new LinkerYard();
        common.addObject(false);
        common.addCommon(0, 0, 4);
        dueRun("a common as the root", common, 999, 0);
        LinkerYard data = yard(5);
        data.addSection(0, false, 8, 1, 7, false);
        data.define(1, 1, 0, 's');
        data.refer(1, 0, 0, 'c');
        Check.due("9: data as the root", '-', () -> data.link(1));
        Check.due("22: data as the root", 999, data::run);
        Check.due("23: data as the root", 999, data::runPlain);
        Check.due("24: data as the root", 0, data::steps);
    }

    private static void orderOfCalls() {
        LinkerYard yard = yard(900, 901, 902, 903);
        yard.refer(0, 5, 1, 'c');
        yard.refer(0, 1, 2, 'c');
        yard.refer(0, 3, 3, 'a');
        yard.refer(2, 0, 3, 'c');
        yard.refer(2, 7, 1, 'c');
        dueRun("by the offsets, the first to its end", yard, output(900, 902, 903, 901, 901), 5);
        dueRun("again the same", yard, output(900, 902, 903, 901, 901), 5);
    }

    private static void callsThatGoToNoCode() {
        LinkerYard yard = yard(3, 4);
        yard.addSection(0, false, 8, 1, 17, false);
        yard.define(2, 2, 1, 's');
        yard.addCommon(0, 3, 4);
        yard.refer(2, 0, 1, 'c');
        yard.refer(0, 7, 3, 'c');
        yard.refer(0, 0, 2, 'c');
        yard.refer(0, 4, 1, 'c');
        yard.refer(0, 6, 3, 'a');
        dueRun("data and a common", yard, output(3, 999, 4, 999), 2);
        LinkerYard local = yard(3);
        local.addObject(false);
        local.addSection(1, true, 8, 1, 6, false);
        local.addSection(0, true, 8, 1, 9, false);
        local.define(1, 4, 7, 's');
        local.define(2, 4, 7, 'l');
        local.refer(0, 0, 4, 'c');
        dueRun("a local one", local, output(3, 9), 2);
    }

    private static void endlessChain() {
        LinkerYard yard = yard(7);
        yard.refer(0, 2, 0, 'c');
        yard.refer(0, 3, 0, 'c');
        int[] contents = new int[100];
        java.util.Arrays.fill(contents, 7);
        dueRun("it calls itself", yard, output(contents), 100);
    }

    private static void endlessLoop() {
        LinkerYard yard = yard(7, 8, 9);
        yard.addCommon(0, 5, 1);
        yard.refer(0, 2, 1, 'c');
        yard.refer(0, 3, 5, 'c');
        yard.refer(1, 0, 5, 'c');
        yard.refer(1, 2, 2, 'c');
        yard.refer(2, 7, 0, 'c');
        int output = 0;
        for (int step = 0; step < 100; step++) {
            output = (31 * output + 7 + step % 3) % MODULUS;
            if (step % 3 == 1) {
                output = (31 * output + 999) % MODULUS;
            }
        }
        dueRun("three call one another", yard, output, 100);
    }

    /** Four levels of three calls each, with a common called behind them, make more than 100 steps. */
    private static void nothingBehindTheLast() {
        LinkerYard yard = yard(1, 2, 3, 4, 5);
        yard.addCommon(0, 9, 1);
        for (int section = 0; section < 4; section++) {
            for (int offset = 0; offset < 3; offset++) {
                yard.refer(section, offset, section + 1, 'c');
            }
            yard.refer(section, 3, 9, 'c');
        }
        yard.refer(4, 0, 9, 'c');
        int[] state = {0, 0};
        nest(state, 0);
        dueRun("more than 100 steps", yard, state[0], 100);
        LinkerYard last = yard(0, 1);
        last.addCommon(0, 9, 1);
        last.refer(0, 0, 1, 'c');
        last.refer(0, 1, 9, 'c');
        last.refer(1, 0, 9, 'c');
        dueRun("two steps", last, output(0, 1, 999, 999), 2);
    }

    /** The output and the steps of four levels, by recursion. */
    private static void nest(int[] state, int level) {
        state[1]++;
        state[0] = (31 * state[0] + level + 1) % MODULUS;
        for (int call = 0; call < 3 && level < 4 && state[1] < 100; call++) {
            nest(state, level + 1);
        }
        if (state[1] < 100) {
            state[0] = (31 * state[0] + 999) % MODULUS;
        }
    }

    private static void foldedRun() {
        LinkerYard yard = yard(1, 2, 2, 3);
        yard.refer(0, 0, 1, 'c');
        yard.refer(0, 1, 2, 'c');
        yard.refer(1, 4, 3, 'c');
        yard.refer(2, 4, 3, 'c');
        dueRun("into one that is folded", yard, output(1, 2, 3, 2, 3), 5);
        Check.due("11: it is folded", 'f', () -> yard.fate(2));
        LinkerYard root = yard(4, 4);
        root.addSection(0, true, 8, 1, 4, true);
        Check.due("9: the root is folded", '-', () -> root.link(1));
        Check.due("22: the root is folded", output(4), root::run);
        LinkerYard folded = new LinkerYard();
        folded.addObject(false);
        folded.addSection(0, true, 8, 1, 6, true);
        folded.addSection(0, true, 8, 1, 6, false);
        folded.define(1, 0, 5, 's');
        dueRun("the root itself is folded", folded, 6, 1);
        Check.due("11: the root itself is folded", 'f', () -> folded.fate(1));
    }

    private static void islandRun() {
        LinkerYard yard = new LinkerYard();
        yard.addObject(false);
        yard.setReach(80);
        for (int section = 0; section < 5; section++) {
            yard.addSection(0, true, 64, 1, section + 1, false);
            yard.define(section, section, 63, 's');
        }
        yard.refer(0, 0, 4, 'c');
        yard.refer(0, 1, 3, 'c');
        yard.refer(4, 60, 1, 'c');
        yard.refer(4, 2, 2, 'c');
        yard.refer(1, 0, 2, 'c');
        dueRun("by islands", yard, output(1, 5, 3, 2, 3, 4), 6);
        Check.due("18: by islands", 4, yard::islands);
    }

    private static void figures() {
        LinkerYard none = new LinkerYard();
        none.addObject(false);
        none.addCommon(0, 0, 1);
        none.link(0);
        Check.dueArithmetic("35: no sections", none::laidShare);
        Check.dueArithmetic("36: no sections", none::meanSize);
        Check.due("37: no sections", true, none::isSound);
        LinkerYard yard = new LinkerYard();
        yard.addObject(false);
        yard.addObject(true);
        yard.addSection(0, true, 8, 1, 1, true);
        yard.addSection(0, true, 8, 1, 1, true);
        yard.addSection(0, false, 13, 1, 1, true);
        yard.addSection(0, false, 20, 1, 1, false);
        yard.addSection(1, true, 9, 1, 1, true);
        yard.addSection(0, false, 8, 1, 1, true);
        yard.addSection(0, false, 1, 1, 1, false);
        yard.define(0, 0, 0, 's');
        yard.addCommon(0, 5, 50);
        yard.link(0);
        Check.due("35: neither folded nor dead ones", 3f / 7f, yard::laidShare);
        Check.due("36: neither folded nor dead ones", 29d / 3d, yard::meanSize);
        yard.link(5);
        Check.due("35: with a common", 3f / 7f, yard::laidShare);
        Check.due("36: a common does not count", 29d / 3d, yard::meanSize);
        Check.due("37: it is sound", true, yard::isSound);
        LinkerYard dead = yard(1, 2);
        dead.addCommon(0, 9, 1);
        dead.link(9);
        Check.due("35: none is laid", 0f, dead::laidShare);
        Check.dueArithmetic("36: none is laid", dead::meanSize);
    }
}
