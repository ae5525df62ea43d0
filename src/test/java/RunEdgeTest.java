/** The sentences about runs and figures that name a boundary: their terms, promises 22 to 24 and 35 to 37. */
public final class RunEdgeTest {
    private static final int MODULUS = 1000003;

    private RunEdgeTest() {
    }

    public static void main(String[] args) {
        noLink();
        firstOutput();
        remainders();
        orderOfCalls();
        whateverOffset();
        callsOfNoCode();
        hundredSteps();
        nothingBehindTheLast();
        deepestRun();
        rootOfNoCode();
        plainRuns();
        shares();
        means();
        sound();
        Check.end();
    }

    /** A plain object with code of these contents; each section has the name of its number. */
    private static LinkerYard yard(int... contents) {
        LinkerYard yard = Build.objects("p");
        for (int content : contents) {
            int section = Build.code(yard, 0, 8, content);
            yard.define(section, section, section % 8, 's');
        }
        return yard;
    }

    private static int output(int... contents) {
        int output = 0;
        for (int content : contents) {
            output = (31 * output + content) % MODULUS;
        }
        return output;
    }

    private static void dueRun(String what, LinkerYard yard, int root, int output, int steps) {
        Check.due("link: " + what, '-', () -> yard.link(root));
        Check.due("run: " + what, output, yard::run);
        Check.due("plain run: " + what, output, yard::runPlain);
        Check.due("steps: " + what, steps, yard::steps);
        Check.due("whether it is sound: " + what, true, yard::isSound);
    }

    private static void noLink() {
        Check.sentence("22 to 24, 35 to 37: IllegalStateException if there is no link");
        for (LinkerYard yard : new LinkerYard[] {new LinkerYard(), Build.objects("p"), yard(1), yard(1, 2)}) {
            Check.dueBadState("run", yard::run);
            Check.dueBadState("plain run", yard::runPlain);
            Check.dueBadState("steps", yard::steps);
            Check.dueBadState("share, ahead of no sections", yard::laidShare);
            Check.dueBadState("mean, ahead of none", yard::meanSize);
            Check.dueBadState("whether it is sound", yard::isSound);
        }
    }

    private static void firstOutput() {
        Check.sentence("A run begins with the output 0");
        for (int content : new int[] {0, 1, 998, 999}) {
            dueRun("content " + content, yard(content), 0, content, 1);
        }
        LinkerYard again = yard(5, 7);
        dueRun("the first root", again, 0, 5, 1);
        dueRun("the second root", again, 1, 7, 1);
    }

    private static LinkerYard calling(int... contents) {
        LinkerYard yard = yard(contents);
        for (int section = 0; section < contents.length - 1; section++) {
            yard.refer(section, 0, section + 1, 'c');
        }
        return yard;
    }

    private static void remainders() {
        Check.sentence("of which the remainder is taken that it leaves when it is divided by 1000003");
        dueRun("1000002 is left", calling(33, 17, 18, 4), 0, 1000002, 4);
        dueRun("1000003 leaves 0", calling(33, 17, 18, 5), 0, 0, 4);
        dueRun("1000004 leaves 1", calling(33, 17, 18, 6), 0, 1, 4);
        dueRun("0 is the output then", calling(33, 17, 18, 5, 8), 0, 8, 5);
        dueRun("1000002 is the output then", calling(33, 17, 18, 4, 999), 0, (31 * 1000002 + 999) % MODULUS, 5);
        dueRun("the greatest contents", calling(999, 999, 999, 999, 999), 0, output(999, 999, 999, 999, 999), 5);
    }

    private static void orderOfCalls() {
        Check.sentence("then its calls are done, in the order of their offsets");
        int[][] orders = {{0, 1, 2, 3}, {3, 2, 1, 0}, {2, 0, 3, 1}, {1, 3, 0, 2}};
        for (int[] order : orders) {
            LinkerYard yard = yard(10, 11, 12, 13, 14, 15);
            for (int place : order) {
                yard.refer(0, place == 3 ? 7 : place, 4 - place, 'c');
            }
            yard.refer(3, 7, 5, 'c');
            dueRun("four calls", yard, 0, output(10, 14, 13, 15, 12, 11), 6);
        }
        LinkerYard addresses = yard(10, 11, 12);
        addresses.refer(0, 0, 1, 'a');
        addresses.refer(0, 7, 2, 'a');
        addresses.refer(0, 3, 2, 'c');
        dueRun("one that asks for an address is no call", addresses, 0, output(10, 12), 2);
    }

    private static void whateverOffset() {
        Check.sentence("to be in that section, whatever the offset of the definition");
        for (int offset : new int[] {0, 1, 62, 63}) {
            LinkerYard yard = Build.objects("p");
            Build.code(yard, 0, 64, 3);
            Build.code(yard, 0, 64, 4);
            Build.code(yard, 0, 64, 5);
            yard.define(0, 0, offset, 's');
            yard.define(1, 1, offset, 's');
            yard.define(2, 2, offset, 'l');
            yard.refer(0, 0, 1, 'c');
            yard.refer(1, 63, 2, 'c');
            dueRun("offset " + offset, yard, 0, output(3, 4, 5), 3);
            yard.setReach(80);
            dueRun("offset " + offset + " with islands", yard, 0, output(3, 4, 5), 3);
        }
    }

    private static void callsOfNoCode() {
        Check.sentence("for another one, the output becomes so by 999 instead of a content");
        for (boolean isCommon : new boolean[] {true, false}) {
            for (int offset : new int[] {0, 63}) {
                LinkerYard yard = yard(3);
                yard.addSection(0, false, 64, 1, 17, false);
                if (isCommon) {
                    yard.addCommon(0, 9, 64);
                } else {
                    yard.define(1, 9, offset, 's');
                }
                yard.refer(0, 0, 9, 'c');
                yard.refer(1, 0, 0, 'c');
                dueRun("common: " + isCommon, yard, 0, output(3, 999), 1);
                yard.refer(0, 7, 9, 'c');
                dueRun("twice, common: " + isCommon, yard, 0, output(3, 999, 999), 1);
            }
        }
    }

    private static final int NO_CODE = -1;

    /** A run by the document's words, over the calls of each section; its state is the output and the steps. */
    private static void be(int[] state, int[][] calls, int section) {
        state[1]++;
        state[0] = (31 * state[0] + section + 1) % MODULUS;
        for (int place = 0; place < calls[section].length && state[1] < 100; place++) {
            if (calls[section][place] == NO_CODE) {
                state[0] = (31 * state[0] + 999) % MODULUS;
            } else {
                be(state, calls, calls[section][place]);
            }
        }
    }

    private static LinkerYard tree(int[][] calls) {
        LinkerYard yard = Build.objects("p");
        yard.addCommon(0, 15, 1);
        for (int section = 0; section < calls.length; section++) {
            Build.code(yard, 0, 8, section + 1);
            yard.define(section, section, 7, 's');
            for (int place = 0; place < calls[section].length; place++) {
                int goal = calls[section][place];
                yard.refer(section, 2 * place, goal == NO_CODE ? 15 : goal, 'c');
            }
        }
        return yard;
    }

    private static void dueTree(String what, int steps, int[]... calls) {
        int[] state = {0, 0};
        be(state, calls, 0);
        Check.due("steps as drawn: " + what, steps, () -> state[1]);
        dueRun(what, tree(calls), 0, state[0], steps);
    }

    /** Sections of 85, 21, 5 and 1 steps, and one with as many steps as are asked for, at most 5. */
    private static int[][] drawn(int last) {
        int[] rest = new int[Math.min(last, 4)];
        java.util.Arrays.fill(rest, 4);
        if (last < 4) {
            rest[last - 1] = NO_CODE;
        }
        return new int[][] {{1, 3, 3, 5}, {2, 2, 2, 2}, {3, 3, 3, 3}, {4, 4, 4, 4}, {NO_CODE}, rest};
    }

    private static void hundredSteps() {
        Check.sentence("When 100 steps were begun");
        dueTree("98 steps", 98, drawn(2));
        dueTree("99 steps", 99, drawn(3));
        int[][] hundred = drawn(3);
        hundred[5] = new int[] {4, 4, 4};
        dueTree("100 steps", 100, hundred);
        dueTree("101 steps are not begun", 100, drawn(4));
        dueTree("many more", 100, new int[][] {{1, 1, 1, 1}, {2, 2, 2, 2}, {3, 3, 3, 3}, {4, 4, 4, 4}, {NO_CODE}});
    }

    private static void nothingBehindTheLast() {
        Check.sentence("nothing is done any more behind the content of the last one, not even calls that go to "
                + "no code");
        dueTree("99 steps, and calls of no code at all ends", 99, new int[][] {{1, 3, 5, NO_CODE}, {2, 2, 2, 2},
            {3, 3, 3, 3}, {4, 4, 4, 4}, {NO_CODE}, {4, 3, 4, NO_CODE}});
        dueTree("100 steps, and calls of no code at all ends", 100, new int[][] {{1, 3, 5, NO_CODE}, {2, 2, 2, 2},
            {3, 3, 3, 3}, {4, 4, 4, 4}, {NO_CODE}, {6, 3, 4, NO_CODE}, {NO_CODE, 4}});
        dueTree("the last one would call code", 100, new int[][] {{1, 3, 5, NO_CODE}, {2, 2, 2, 2},
            {3, 3, 3, 3}, {4, 4, 4, 4}, {NO_CODE}, {3, 4, 4, 6}, {4, NO_CODE}});
        int[] contents = new int[100];
        java.util.Arrays.fill(contents, 7);
        for (int offset = 0; offset < 2; offset++) {
            LinkerYard yard = yard(7);
            yard.addCommon(0, 15, 1);
            yard.refer(0, 1, 0, 'c');
            yard.refer(0, 2 * offset, 15, 'c');
            int[] mixed = new int[offset == 0 ? 199 : 100];
            for (int place = 0; place < mixed.length; place++) {
                mixed[place] = offset == 0 && place % 2 == 1 ? 999 : 7;
            }
            dueRun("it calls itself, no code behind it: " + offset, yard, 0, output(mixed), 100);
        }
    }

    private static void deepestRun() {
        Check.sentence("a run as deep as it may be");
        int[][] calls = new int[14][];
        for (int section = 0; section < 14; section++) {
            calls[section] = new int[] {(section + 1) % 14, section == 0 ? 13 : NO_CODE};
        }
        dueTree("14 sections in a circle", 100, calls);
    }

    private static void rootOfNoCode() {
        Check.sentence("A run whose root stands for data or a common has the output 999 and no step");
        for (int root : new int[] {0, 15}) {
            LinkerYard yard = Build.objects("p");
            yard.addSection(0, false, 64, 1, 17, false);
            Build.keptCode(yard, 0, 8, 5);
            yard.define(1, 7, 0, 's');
            yard.refer(0, 0, 7, 'c');
            yard.define(0, root, 63, 'w');
            dueRun("data", yard, root, 999, 0);
            yard.addCommon(0, root, 1);
            dueRun("a common", yard, root, 999, 0);
            dueRun("code beside them", yard, 7, 5, 1);
        }
    }

    private static void plainRuns() {
        Check.sentence("23: a run in which nothing is moved, folded or left out");
        LinkerYard yard = Build.objects("p");
        yard.setReach(80);
        for (int section = 0; section < 6; section++) {
            yard.addSection(0, true, 64, 16, section < 4 ? section / 2 : 9, section % 2 == 0);
            yard.define(section, section, 63, 's');
        }
        yard.refer(5, 0, 3, 'c');
        yard.refer(5, 1, 2, 'c');
        yard.refer(5, 2, 1, 'c');
        yard.refer(4, 0, 3, 'c');
        yard.refer(4, 1, 2, 'c');
        yard.refer(4, 2, 1, 'c');
        yard.refer(0, 0, 2, 'c');
        yard.refer(1, 0, 2, 'c');
        Check.due("link", '-', () -> yard.link(5));
        Check.due("fates", "lflflf", () -> Build.fates(yard, 6));
        Check.due("islands", 2, yard::islands);
        Check.due("run", output(9, 1, 1, 0, 1), yard::run);
        Check.due("plain run", output(9, 1, 1, 0, 1), yard::runPlain);
        Check.due("steps", 5, yard::steps);
        Check.due("whether it is sound", true, yard::isSound);
    }

    private static void shares() {
        Check.sentence("35: their number divided by that of all sections; ArithmeticException if there are no "
                + "sections");
        LinkerYard none = Build.objects("p");
        none.addCommon(0, 0, 1);
        none.link(0);
        Check.dueArithmetic("no sections", none::laidShare);
        for (int sections : new int[] {1, 2, 3, 7, 23, 24}) {
            for (int laid : new int[] {0, 1, sections / 2, sections - 1, sections}) {
                LinkerYard yard = Build.objects("p");
                yard.addCommon(0, 0, 1);
                for (int section = 0; section < sections; section++) {
                    yard.addSection(0, section % 2 == 0, 1, 1, section, section < laid);
                }
                yard.link(0);
                Check.due(laid + " of " + sections, (float) laid / (float) sections, yard::laidShare);
            }
        }
        LinkerYard folded = yard(4, 4);
        folded.refer(0, 0, 0, 'c');
        folded.refer(1, 0, 0, 'c');
        folded.refer(0, 1, 1, 'c');
        folded.refer(1, 1, 1, 'c');
        folded.link(0);
        Check.due("one is folded", 0.5f, folded::laidShare);
    }

    private static void means() {
        Check.sentence("36: the sum of their sizes divided by their number; ArithmeticException if there are none");
        LinkerYard none = Build.objects("pm");
        none.addCommon(0, 0, 1);
        none.link(0);
        Check.dueArithmetic("no sections", none::meanSize);
        Build.data(none, 0, 1);
        Build.keptData(none, 1, 1);
        none.link(0);
        Check.dueArithmetic("none that are laid", none::meanSize);
        Check.due("their share", 0f, none::laidShare);
        for (int size : new int[] {1, 2, 63, 64}) {
            LinkerYard yard = Build.objects("p");
            yard.addCommon(0, 0, 1);
            Build.keptData(yard, 0, size);
            Build.data(yard, 0, 30);
            yard.link(0);
            Check.due("one of size " + size, (double) size, yard::meanSize);
            Build.keptCode(yard, 0, 1, 1);
            yard.addSection(0, true, 1, 16, 2, true);
            Build.keptCode(yard, 0, 1, 1);
            yard.link(0);
            Check.due("three, one of size " + size, (size + 2) / 3.0, yard::meanSize);
        }
    }

    private static void sound() {
        Check.sentence("37: whether all is sound");
        LinkerYard none = Build.objects("p");
        none.addCommon(0, 0, 64);
        none.link(0);
        Check.due("a common alone", true, none::isSound);
        LinkerYard full = Build.objects("p");
        for (int section = 0; section < 24; section++) {
            full.addSection(0, section % 2 == 0, section % 2 == 0 ? 64 : 32, section % 4 < 2 ? 1 : 16, section, true);
        }
        for (int name = 0; name < 13; name++) {
            full.define(23 - name, name, name, 'w');
        }
        for (int name = 13; name < 16; name++) {
            full.addCommon(0, name, 64);
        }
        for (int number = 0; number < 40; number++) {
            full.refer(number % 24, number / 24, number % 16, number % 5 == 0 ? 'a' : 'c');
        }
        for (int reach : new int[] {80, 500, 999}) {
            full.setReach(reach);
            Check.due("link with reach " + reach, '-', () -> full.link(1));
            Check.due("as much as there may be, reach " + reach, true, full::isSound);
        }
    }
}
