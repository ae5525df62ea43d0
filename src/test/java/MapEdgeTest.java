/** The sentences about laying, islands and values that name a boundary: their terms, promises 16 to 21. */
public final class MapEdgeTest {
    private static final int MIN = Integer.MIN_VALUE;
    private static final int MAX = Integer.MAX_VALUE;
    private static final int[] ALIGNMENTS = {1, 2, 4, 8, 16};

    private MapEdgeTest() {
    }

    public static void main(String[] args) {
        codeFromZero();
        codeByAlignments();
        codeByNumbers();
        dataFromThousand();
        dataByAlignments();
        commonsByNames();
        commonsByAlignment();
        roomForCode();
        roomForData();
        reachOfCalls();
        noDistance();
        firstBySection();
        firstByOffset();
        keptIslands();
        sizesOfIslands();
        islandsOfData();
        mostIslands();
        noIslands();
        valuesOfAddresses();
        valuesOfCalls();
        valuesOfLaid();
        askedIslands();
        codeEnds();
        dataEnds();
        sums();
        Check.end();
    }

    private static int up(int at, int alignment) {
        return (at + alignment - 1) / alignment * alignment;
    }

    private static void codeFromZero() {
        Check.sentence("From the address 0 on, the code sections are laid");
        for (int alignment : ALIGNMENTS) {
            LinkerYard yard = Build.objects("p");
            Build.keptData(yard, 0, 3);
            Build.code(yard, 0, 5, 0);
            yard.addSection(0, true, 64, alignment, 0, true);
            yard.define(0, 0, 0, 's');
            yard.link(0);
            Check.due("alignment " + alignment, 0, () -> yard.address(2));
        }
    }

    /** Two sections of code or data, the first one of a size, the second one with an alignment. */
    private static LinkerYard pair(boolean isCode, int size, int alignment) {
        LinkerYard yard = Build.objects("p");
        yard.addSection(0, isCode, size, 1, 0, true);
        yard.addSection(0, isCode, 1, alignment, 1, true);
        yard.define(0, 0, 0, 's');
        yard.link(0);
        return yard;
    }

    private static void codeByAlignments() {
        Check.sentence("each code section at the next address that can be divided by its alignment");
        for (int size = 1; size <= 64; size++) {
            for (int alignment : ALIGNMENTS) {
                LinkerYard yard = pair(true, size, alignment);
                Check.due("behind " + size + " by " + alignment, up(size, alignment), () -> yard.address(1));
            }
        }
    }

    private static void codeByNumbers() {
        Check.sentence("the code sections that live and are not folded are laid by rising numbers");
        LinkerYard yard = Build.objects("pppppppppp");
        for (int section = 0; section < 24; section++) {
            boolean isKept = section % 4 != 1;
            yard.addSection(9 - section % 10, section % 4 != 2, 3, 1, section % 4 == 3 ? 500 : section, isKept);
        }
        yard.define(0, 0, 0, 's');
        Check.due("link", '-', () -> yard.link(0));
        int at = 0;
        for (int section = 0; section < 24; section++) {
            int number = section;
            int kind = section % 4;
            if (kind == 0 || section == 3) {
                int due = at;
                Check.due("section " + section, due, () -> yard.address(number));
                at += 3;
            } else if (kind == 3) {
                Check.due("section " + section + ", folded", 3, () -> yard.address(number));
            } else if (kind == 1) {
                Check.due("section " + section, 'x', () -> yard.fate(number));
            }
        }
        int end = at;
        Check.due("where the code ends", end, yard::codeEnd);
    }

    private static void dataFromThousand() {
        Check.sentence("from the address 1000 on, the living data sections are laid so");
        for (int alignment : ALIGNMENTS) {
            LinkerYard yard = Build.objects("p");
            Build.keptCode(yard, 0, 3, 0);
            Build.data(yard, 0, 5);
            yard.addSection(0, false, 64, alignment, 0, true);
            yard.define(0, 0, 0, 's');
            yard.link(0);
            Check.due("alignment " + alignment, alignment == 16 ? 1008 : 1000, () -> yard.address(2));
        }
    }

    private static void dataByAlignments() {
        Check.sentence("the data sections so: each at the next address that can be divided by its alignment");
        for (int size = 1; size <= 64; size++) {
            for (int alignment : ALIGNMENTS) {
                LinkerYard yard = pair(false, size, alignment);
                Check.due("behind " + size + " by " + alignment, up(1000 + size, alignment), () -> yard.address(1));
            }
        }
    }

    private static void commonsByNames() {
        Check.sentence("and behind them the living commons by rising names");
        for (boolean isRising : new boolean[] {true, false}) {
            LinkerYard yard = Build.objects("pppppppppp");
            for (int number = 0; number < 16; number++) {
                int name = isRising ? number : 15 - number;
                yard.addCommon(name % 10, name, 4);
            }
            for (int section = 0; section < 4; section++) {
                Build.keptData(yard, 0, 4);
                for (int offset = 0; offset < 4; offset++) {
                    yard.refer(section, offset, 15 - 4 * section - offset, 'a');
                }
            }
            Check.due("link, rising: " + isRising, '-', () -> yard.link(0));
            for (int name = 0; name < 16; name++) {
                int asked = name;
                Check.due("name " + name + ", rising: " + isRising, 1016 + 4 * name, () -> yard.addressOf(asked));
            }
        }
        LinkerYard ends = Build.objects("p");
        ends.addCommon(0, 15, 8);
        ends.addCommon(0, 7, 8);
        ends.addCommon(0, 0, 8);
        Build.keptData(ends, 0, 1);
        ends.refer(0, 0, 15, 'a');
        ends.link(0);
        Check.due("name 0", 1004, () -> ends.addressOf(0));
        Check.due("name 15, behind it at once", 1012, () -> ends.addressOf(15));
    }

    private static void commonsByAlignment() {
        Check.sentence("the living commons with an alignment of 4");
        for (int size = 1; size <= 64; size++) {
            LinkerYard yard = Build.objects("p");
            Build.keptData(yard, 0, size);
            yard.addCommon(0, 0, size);
            yard.addCommon(0, 1, 1);
            yard.refer(0, 0, 1, 'a');
            yard.link(0);
            int first = up(1000 + size, 4);
            int second = up(first + size, 4);
            Check.due("the first behind " + size, first, () -> yard.addressOf(0));
            Check.due("the second behind " + size, second, () -> yard.addressOf(1));
        }
    }

    private static void dueRooms(String what, LinkerYard yard, int code, int data) {
        yard.setRooms(code, data);
        Check.due("just enough: " + what, '-', () -> yard.link(0));
        Check.due("where the code ends: " + what, code, yard::codeEnd);
        Check.due("where the data end: " + what, 1000 + data, yard::dataEnd);
        yard.setRooms(code - 1, data);
        Check.due("one less for code: " + what, 'r', () -> yard.link(0));
        yard.setRooms(code, data - 1);
        Check.due("one less for data: " + what, 'r', () -> yard.link(0));
        yard.setRooms(code + 1, data + 1);
        Check.due("one more: " + what, '-', () -> yard.link(0));
    }

    /** Code that ends at 20 and data that end at 1012. */
    private static LinkerYard roomy() {
        LinkerYard yard = Build.objects("p");
        Build.code(yard, 0, 20, 0);
        Build.keptData(yard, 0, 12);
        yard.define(0, 0, 0, 's');
        return yard;
    }

    private static void roomForCode() {
        Check.sentence("If the code, with islands, ends behind its room, the link fails, 'r'");
        dueRooms("a section", roomy(), 20, 12);
        LinkerYard gap = roomy();
        gap.addSection(0, true, 1, 16, 1, true);
        dueRooms("a gap and a section", gap, 33, 12);
        LinkerYard island = roomy();
        island.setReach(80);
        island.define(1, 1, 0, 's');
        island.refer(0, 0, 1, 'c');
        dueRooms("a section with an island", island, 22, 12);
        island.refer(0, 1, 1, 'c');
        dueRooms("a section with two islands", island, 24, 12);
    }

    private static void roomForData() {
        Check.sentence("or the data end behind 1000 plus theirs");
        LinkerYard gap = roomy();
        gap.addSection(0, false, 1, 16, 1, true);
        dueRooms("a gap and a section", gap, 20, 25);
        LinkerYard common = roomy();
        common.addCommon(0, 1, 5);
        common.refer(0, 0, 1, 'a');
        dueRooms("a common", common, 20, 17);
        LinkerYard gapped = roomy();
        Build.keptData(gapped, 0, 1);
        gapped.addCommon(0, 1, 5);
        gapped.refer(0, 0, 1, 'a');
        dueRooms("a gap and a common", gapped, 20, 21);
        LinkerYard both = roomy();
        both.setRooms(19, 11);
        Check.due("both rooms are too small", 'r', () -> both.link(0));
    }

    /** A call and its goal at a distance within the code, there or back. */
    private static LinkerYard distant(int reach, int distance, boolean isBack) {
        LinkerYard yard = Build.objects("p");
        yard.setReach(reach);
        int last = distance / 64;
        for (int section = 0; section <= last; section++) {
            Build.keptCode(yard, 0, 64, section);
        }
        yard.define(isBack ? 0 : last, 0, isBack ? 0 : distance % 64, 's');
        yard.refer(isBack ? last : 0, isBack ? distance % 64 : 0, 0, 'c');
        Check.due("link over " + distance, '-', () -> yard.link(0));
        return yard;
    }

    private static void reachOfCalls() {
        Check.sentence("A call reaches its goal if the difference, without sign, is not greater than the reach");
        for (int reach : new int[] {80, 81, 127, 128, 500, 800}) {
            for (int distance : new int[] {reach - 1, reach, reach + 1, reach + 2}) {
                for (boolean isBack : new boolean[] {false, true}) {
                    LinkerYard yard = distant(reach, distance, isBack);
                    boolean isFar = distance > reach;
                    String what = "over " + distance + " with reach " + reach + ", back: " + isBack;
                    Check.due("island " + what, isFar, () -> yard.hasIsland(0));
                    Check.due("islands " + what, isFar ? 1 : 0, yard::islands);
                    int direct = isBack ? -distance : distance;
                    int island = isBack ? 64 - distance % 64 : 64;
                    Check.due("value " + what, isFar ? island : direct, () -> yard.valueOf(0));
                }
            }
        }
    }

    private static void noDistance() {
        Check.sentence("a call whose place is its goal");
        LinkerYard yard = Build.objects("p");
        yard.setReach(80);
        Build.code(yard, 0, 64, 1);
        yard.define(0, 0, 63, 's');
        yard.refer(0, 63, 0, 'c');
        yard.link(0);
        Check.due("island", false, () -> yard.hasIsland(0));
        Check.due("value", 0, () -> yard.valueOf(0));
    }

    /**
     * Section 1 calls section 3 over 81 units, with a reach of 80. Section 3 has an alignment that takes
     * up what comes ahead of it, so that an island behind section 0 brings the call of section 1 nearer.
     */
    private static LinkerYard nearing() {
        LinkerYard yard = Build.objects("p");
        yard.setReach(80);
        Build.code(yard, 0, 10, 1);
        Build.keptCode(yard, 0, 10, 2);
        Build.keptCode(yard, 0, 64, 3);
        yard.addSection(0, true, 10, 16, 4, true);
        yard.define(0, 0, 0, 's');
        yard.define(3, 3, 0, 's');
        yard.define(2, 2, 60, 's');
        yard.refer(1, 5, 3, 'c');
        return yard;
    }

    private static void firstBySection() {
        Check.sentence("the first one, by its section, gets an island");
        LinkerYard alone = nearing();
        alone.link(0);
        Check.due("the call of section 1 alone", true, () -> alone.hasIsland(0));
        LinkerYard both = nearing();
        both.refer(0, 7, 3, 'c');
        both.link(0);
        Check.due("a call of section 0 comes first", true, () -> both.hasIsland(1));
        Check.due("then the other one reaches", false, () -> both.hasIsland(0));
        Check.due("one island", 1, both::islands);
        Check.due("section 1 is moved", 12, () -> both.address(1));
        Check.due("section 3 is not", 96, () -> both.address(3));
        Check.due("value", 79, () -> both.valueOf(0));
    }

    private static void firstByOffset() {
        Check.sentence("the first one, by its offset; islands stand behind their section in the order in which "
                + "they came");
        int[][] orders = {{0, 1, 2, 3}, {3, 2, 1, 0}, {2, 0, 3, 1}, {1, 3, 0, 2}};
        for (int[] order : orders) {
            LinkerYard yard = Build.objects("p");
            yard.setReach(80);
            Build.code(yard, 0, 20, 1);
            yard.define(0, 0, 0, 's');
            yard.addCommon(0, 1, 1);
            for (int place : order) {
                yard.refer(0, place == 3 ? 19 : 3 * place, 1, 'c');
            }
            yard.link(0);
            Check.due("islands", 4, yard::islands);
            for (int number = 0; number < 4; number++) {
                int reference = number;
                int place = order[number];
                int due = 20 + 2 * place - (place == 3 ? 19 : 3 * place);
                Check.due("value of the call at place " + place, due, () -> yard.valueOf(reference));
            }
        }
        LinkerYard later = nearing();
        later.refer(1, 0, 2, 'c');
        later.addCommon(0, 9, 1);
        later.refer(0, 9, 9, 'c');
        later.refer(0, 0, 2, 'c');
        later.link(0);
        Check.due("a call that came later, though at a lower offset", 12 - 0, () -> later.valueOf(3));
        Check.due("the call that came first", 10 - 9, () -> later.valueOf(2));
    }

    private static void keptIslands() {
        Check.sentence("As long as there is a call which does not reach its goal and has no island");
        LinkerYard yard = nearing();
        yard.refer(0, 0, 2, 'c');
        yard.link(0);
        Check.due("a call that reached until an island came", true, () -> yard.hasIsland(1));
        Check.due("one that would reach again keeps its island", true, () -> yard.hasIsland(0));
        Check.due("two islands", 2, yard::islands);
        Check.due("its value is by the island", 22 - 17, () -> yard.valueOf(0));
        Check.due("its goal would be in reach", 96, () -> yard.address(3));
        Check.due("the other value", 10, () -> yard.valueOf(1));
        Check.due("it is sound", true, yard::isSound);
    }

    private static void sizesOfIslands() {
        Check.sentence("islands have 2 units and stand behind their section, and all behind is laid anew");
        for (int islands = 0; islands <= 4; islands++) {
            for (int alignment : ALIGNMENTS) {
                LinkerYard yard = Build.objects("p");
                yard.setReach(80);
                Build.code(yard, 0, 15, 1);
                yard.addSection(0, true, 3, alignment, 2, true);
                yard.define(0, 0, 0, 's');
                yard.addCommon(0, 1, 1);
                for (int call = 0; call < islands; call++) {
                    yard.refer(0, call, 1, 'c');
                }
                yard.link(0);
                int behind = up(15 + 2 * islands, alignment);
                Check.due("behind " + islands + " islands by " + alignment, behind, () -> yard.address(1));
                Check.due("the end behind " + islands, behind + 3, yard::codeEnd);
                Check.due("the first section", 0, () -> yard.address(0));
            }
        }
    }

    private static void islandsOfData() {
        Check.sentence("a call of a section that is laid: of data too");
        for (int islands = 0; islands <= 4; islands++) {
            LinkerYard yard = Build.objects("p");
            yard.setReach(80);
            Build.code(yard, 0, 3, 1);
            Build.keptData(yard, 0, 7);
            yard.addSection(0, false, 3, 2, 2, true);
            yard.addCommon(0, 1, 1);
            yard.define(0, 0, 0, 's');
            for (int call = 0; call < islands; call++) {
                yard.refer(1, call, 0, 'c');
            }
            yard.refer(0, 0, 1, 'a');
            yard.link(0);
            int second = up(1007 + 2 * islands, 2);
            int all = islands;
            Check.due("islands of data", all, yard::islands);
            Check.due("behind " + islands + " islands", second, () -> yard.address(2));
            Check.due("the common behind " + islands, up(second + 3, 4), () -> yard.addressOf(1));
            Check.due("the code", 3, yard::codeEnd);
            if (islands > 0) {
                Check.due("value of the last one", 1007 + 2 * (islands - 1) - 1000 - (islands - 1),
                        () -> yard.valueOf(all - 1));
            }
        }
        LinkerYard near = Build.objects("p");
        near.setReach(80);
        Build.keptData(near, 0, 64);
        Build.keptData(near, 0, 64);
        near.define(0, 0, 0, 's');
        near.define(1, 1, 16, 's');
        near.refer(0, 0, 1, 'c');
        near.refer(1, 16, 0, 'c');
        near.link(0);
        Check.due("over 80 units, there and back", 0, near::islands);
        near.refer(1, 17, 0, 'c');
        near.link(0);
        Check.due("back over 81 units", true, () -> near.hasIsland(2));
        Check.due("back over 80 units", false, () -> near.hasIsland(1));
        near.define(1, 2, 17, 's');
        near.refer(0, 1, 2, 'c');
        near.link(0);
        Check.due("there over 80 units", false, () -> near.hasIsland(3));
        near.refer(0, 2, 0, 'c');
        near.define(1, 3, 18, 's');
        near.refer(0, 3, 3, 'c');
        near.link(0);
        Check.due("the same behind others", 1, near::islands);
        LinkerYard far = Build.objects("p");
        far.setReach(80);
        Build.keptData(far, 0, 64);
        Build.keptData(far, 0, 64);
        far.define(1, 1, 17, 's');
        far.refer(0, 0, 1, 'c');
        far.link(1);
        Check.due("there over 81 units", true, () -> far.hasIsland(0));
    }

    private static void mostIslands() {
        Check.sentence("as many islands as there may be calls");
        LinkerYard yard = Build.objects("p");
        yard.setReach(80);
        yard.addCommon(0, 0, 1);
        for (int number = 0; number < 40; number++) {
            if (number % 4 == 0) {
                Build.keptCode(yard, 0, 4, number);
            }
            yard.refer(number / 4, number % 4, 0, 'c');
        }
        Check.due("link", '-', () -> yard.link(0));
        Check.due("islands", 40, yard::islands);
        Check.due("where the code ends", 120, yard::codeEnd);
        for (int number = 0; number < 40; number++) {
            int reference = number;
            Check.due("island of " + number, true, () -> yard.hasIsland(reference));
            Check.due("value of " + number, 4 + number % 4, () -> yard.valueOf(reference));
        }
    }

    private static void noIslands() {
        Check.sentence("a call of a section that is laid: nothing else gets an island");
        LinkerYard yard = Build.objects("p");
        yard.setReach(80);
        yard.addCommon(0, 1, 1);
        Build.code(yard, 0, 4, 1);
        Build.keptCode(yard, 0, 4, 2);
        Build.keptCode(yard, 0, 4, 2);
        Build.code(yard, 0, 4, 3);
        yard.define(0, 0, 0, 's');
        yard.refer(0, 0, 1, 'a');
        yard.refer(1, 0, 1, 'c');
        yard.refer(2, 0, 1, 'c');
        yard.refer(3, 0, 1, 'c');
        yard.link(0);
        Check.due("fates", "llfx", () -> Build.fates(yard, 4));
        Check.due("one that asks for the address", false, () -> yard.hasIsland(0));
        Check.due("a call of one that is laid", true, () -> yard.hasIsland(1));
        Check.due("a call of one that is folded", false, () -> yard.hasIsland(2));
        Check.due("a call of one that does not live", false, () -> yard.hasIsland(3));
        Check.due("islands", 1, yard::islands);
        Check.due("where the code ends", 10, yard::codeEnd);
        yard.setReach(999);
        yard.link(0);
        Check.due("islands of a link before are gone", 0, yard::islands);
        Check.due("and take no room", 8, yard::codeEnd);
    }

    private static void valuesOfAddresses() {
        Check.sentence("The value of a reference is, for 'a', the goal");
        LinkerYard yard = Build.objects("p");
        Build.code(yard, 0, 64, 1);
        Build.keptData(yard, 0, 64);
        Build.data(yard, 0, 64);
        yard.define(0, 0, 0, 's');
        yard.define(0, 1, 63, 's');
        yard.define(1, 2, 0, 's');
        yard.define(2, 3, 63, 's');
        yard.addCommon(0, 4, 64);
        int[] due = {0, 63, 1000, 1127, 1128};
        for (int name = 0; name < 5; name++) {
            yard.refer(name < 3 ? 0 : 1, name, name, 'a');
        }
        yard.link(0);
        for (int name = 0; name < 5; name++) {
            int number = name;
            Check.due("to name " + name, due[number], () -> yard.valueOf(number));
        }
        yard.setReach(80);
        yard.link(0);
        Check.due("out of reach", 1128, () -> yard.valueOf(4));
    }

    private static void valuesOfCalls() {
        Check.sentence("for 'c', the difference of the goal, or of the address of its island, and of the place");
        LinkerYard yard = Build.objects("p");
        Build.code(yard, 0, 64, 1);
        Build.keptCode(yard, 0, 64, 2);
        yard.addCommon(0, 4, 64);
        yard.define(0, 0, 0, 's');
        yard.define(1, 1, 63, 's');
        yard.refer(0, 0, 1, 'c');
        yard.refer(0, 1, 1, 'c');
        yard.refer(1, 63, 0, 'c');
        yard.refer(1, 0, 0, 'c');
        yard.refer(1, 1, 4, 'c');
        yard.setReach(126);
        yard.link(0);
        Check.due("there, by an island", 64, () -> yard.valueOf(0));
        Check.due("there, by an island at last", 66 - 1, () -> yard.valueOf(1));
        Check.due("back, by the second island", 134 - 131, () -> yard.valueOf(2));
        Check.due("back", -68, () -> yard.valueOf(3));
        Check.due("to a common, by the first island", 132 - 69, () -> yard.valueOf(4));
        yard.setReach(999);
        yard.link(0);
        int[] due = {127, 126, -127, -64, 1000 - 65};
        for (int reference = 0; reference < 5; reference++) {
            int number = reference;
            Check.due("within reach, reference " + reference, due[number], () -> yard.valueOf(number));
        }
    }

    private static void valuesOfLaid() {
        Check.sentence("16: NoSuchElementException if its section is not laid");
        LinkerYard yard = Build.objects("pm");
        for (int section = 0; section < 5; section++) {
            yard.addSection(section == 4 ? 1 : 0, section != 3, 4, 1, 5, section > 0 && section != 2);
            yard.refer(section, 1, 0, 'c');
        }
        yard.define(0, 0, 0, 's');
        String none = "throws NoSuchElementException";
        String[] due = {"-1", none, none, "3", none};
        for (int reference : new int[] {MIN, -1, 5, 40, MAX}) {
            Check.dueOutOfBounds("reference " + reference + ", no link", () -> yard.valueOf(reference));
        }
        for (int reference = 0; reference < 5; reference++) {
            int number = reference;
            Check.dueBadState("reference " + reference + ", no link", () -> yard.valueOf(number));
        }
        yard.link(0);
        Check.due("fates", "lfxlx", () -> Build.fates(yard, 5));
        for (int reference = 0; reference < 5; reference++) {
            int number = reference;
            Check.due("reference " + reference, due[number], () -> yard.valueOf(number));
        }
        for (int reference : new int[] {MIN, -1, 5, 40, MAX}) {
            Check.dueOutOfBounds("reference " + reference, () -> yard.valueOf(reference));
        }
    }

    private static void askedIslands() {
        Check.sentence("17, 18: IndexOutOfBoundsException if there is no such reference, IllegalStateException "
                + "if there is no link");
        LinkerYard yard = roomy();
        Check.dueBadState("islands, no link", yard::islands);
        for (int reference : new int[] {MIN, -1, 0, 1, MAX}) {
            Check.dueOutOfBounds("reference " + reference + " of 0, no link", () -> yard.hasIsland(reference));
        }
        yard.refer(0, 0, 0, 'c');
        for (int reference : new int[] {MIN, -1, 0, 1, 40, MAX}) {
            Check.due("reference " + reference + " of 1, no link",
                    reference == 0 ? "throws IllegalStateException" : "throws IndexOutOfBoundsException",
                    () -> yard.hasIsland(reference));
        }
        yard.link(0);
        for (int reference : new int[] {MIN, -1, 0, 1, 40, MAX}) {
            Check.due("reference " + reference + " of 1", reference == 0 ? false : "throws IndexOutOfBoundsException",
                    () -> yard.hasIsland(reference));
        }
        Check.due("islands", 0, yard::islands);
    }

    private static void codeEnds() {
        Check.sentence("19: the first address behind the last code section and its islands");
        LinkerYard none = Build.objects("p");
        Build.keptData(none, 0, 64);
        Build.code(none, 0, 64, 1);
        none.define(0, 0, 0, 's');
        Check.dueBadState("no link", none::codeEnd);
        none.link(0);
        Check.due("no code is laid", 0, none::codeEnd);
        LinkerYard last = roomy();
        last.addSection(0, true, 7, 16, 1, true);
        last.addSection(0, true, 64, 16, 2, false);
        last.addSection(0, true, 7, 16, 1, true);
        last.link(0);
        Check.due("behind the last that is laid", 39, last::codeEnd);
        last.refer(2, 0, 1, 'c');
        last.addCommon(0, 1, 1);
        last.setReach(80);
        last.link(0);
        Check.due("with the last one different, and an island between", 55, last::codeEnd);
        last.refer(4, 0, 1, 'c');
        last.link(0);
        Check.due("the last one is folded again, the island is the end", 41, last::codeEnd);
    }

    private static void dataEnds() {
        Check.sentence("20: the first address behind the last data section or common, or where data begin");
        LinkerYard yard = Build.objects("p");
        Build.code(yard, 0, 64, 1);
        Build.data(yard, 0, 1);
        Build.data(yard, 0, 64);
        yard.addCommon(0, 15, 64);
        yard.define(0, 0, 0, 's');
        yard.define(1, 1, 0, 's');
        Check.dueBadState("no link", yard::dataEnd);
        yard.link(0);
        Check.due("nothing of it lives", 1000, yard::dataEnd);
        yard.link(1);
        Check.due("a data section of size 1", 1001, yard::dataEnd);
        yard.link(15);
        Check.due("a common alone", 1064, yard::dataEnd);
        yard.refer(1, 0, 15, 'a');
        yard.link(1);
        Check.due("a common behind a data section", 1068, yard::dataEnd);
    }

    private static void sums() {
        Check.sentence("21: the sum of the values, each one times its number plus 1");
        LinkerYard yard = Build.objects("p");
        yard.addCommon(0, 0, 1);
        Check.dueBadState("no link", yard::checksum);
        yard.link(0);
        Check.due("no references", 0, yard::checksum);
        long sum = 0;
        for (int number = 0; number < 40; number++) {
            if (number % 4 == 0) {
                Build.keptData(yard, 0, 64);
            }
            yard.refer(number / 4, number % 4, 0, 'a');
            sum += (number + 1) * 1640L;
            if (number == 0 || number == 39) {
                long due = number == 0 ? 1064 : sum;
                yard.link(0);
                Check.due("with " + (number + 1) + " references", due, yard::checksum);
            }
        }
        LinkerYard back = Build.objects("p");
        Build.code(back, 0, 64, 1);
        back.define(0, 0, 0, 's');
        back.refer(0, 63, 0, 'c');
        back.refer(0, 62, 0, 'c');
        back.link(0);
        Check.due("below 0", -63 - 2 * 62, back::checksum);
        LinkerYard dead = Build.objects("p");
        for (int section = 0; section < 4; section++) {
            Build.code(dead, 0, 8, section / 2);
            dead.refer(section, section > 1 ? 5 : 4, 0, 'c');
        }
        dead.define(0, 0, 0, 's');
        dead.define(2, 1, 0, 's');
        dead.define(3, 2, 0, 's');
        dead.refer(0, 1, 1, 'c');
        dead.refer(0, 2, 2, 'c');
        dead.link(0);
        Check.due("fates", "lxlf", () -> Build.fates(dead, 4));
        Check.due("of those that are laid alone", -4 + 3 * -13 + 5 * 7 + 6 * 6, dead::checksum);
    }
}
