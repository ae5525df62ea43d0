/** Promises 12, 13 and 16 to 21: laying, islands and values. */
public final class MapTest {
    private MapTest() {
    }

    public static void main(String[] args) {
        refused();
        laying();
        values();
        unlaidValues();
        reach();
        islandsInOrder();
        islandsThatPush();
        islandsOfData();
        islandsInRooms();
        commonsBehindIslands();
        Check.end();
    }

    private static LinkerYard yard() {
        LinkerYard yard = new LinkerYard();
        yard.addObject(false);
        return yard;
    }

    private static void refused() {
        LinkerYard yard = yard();
        yard.addSection(0, true, 4, 1, 0, false);
        yard.refer(0, 0, 1, 'a');
        Check.dueBadState("16: no link", () -> yard.valueOf(0));
        Check.dueBadState("17: no link", () -> yard.hasIsland(0));
        Check.dueBadState("18: no link", yard::islands);
        Check.dueBadState("19: no link", yard::codeEnd);
        Check.dueBadState("20: no link", yard::dataEnd);
        Check.dueBadState("21: no link", yard::checksum);
        for (int reference : new int[] {-1, 1, Integer.MIN_VALUE, Integer.MAX_VALUE}) {
            Check.dueOutOfBounds("16: reference " + reference, () -> yard.valueOf(reference));
            Check.dueOutOfBounds("17: reference " + reference, () -> yard.hasIsland(reference));
        }
        yard.addCommon(0, 1, 4);
        yard.link(1);
        Check.dueNoElement("16: a section that does not live", () -> yard.valueOf(0));
        Check.due("17: a section that does not live", false, () -> yard.hasIsland(0));
        Check.dueOutOfBounds("16: reference 1 of 1", () -> yard.valueOf(1));
        Check.dueOutOfBounds("17: reference 1 of 1", () -> yard.hasIsland(1));
        Check.due("18: none", 0, yard::islands);
        Check.due("19: no code", 0, yard::codeEnd);
        Check.due("20: a common alone", 1004, yard::dataEnd);
        Check.due("21: nothing is laid", 0, yard::checksum);
    }

    private static void laying() {
        LinkerYard yard = yard();
        int[] alignments = {1, 16, 2, 8, 4};
        for (int section = 0; section < 10; section++) {
            yard.addSection(0, section % 2 == 0, 1 + section, alignments[section / 2], section, true);
        }
        yard.addCommon(0, 4, 5);
        yard.addCommon(0, 2, 6);
        yard.define(0, 0, 0, 's');
        yard.refer(9, 3, 4, 'a');
        yard.refer(9, 4, 2, 'a');
        Check.due("9: it links", '-', () -> yard.link(0));
        int[] due = {0, 1000, 16, 1008, 20, 1012, 32, 1024, 40, 1032};
        for (int section = 0; section < 10; section++) {
            int number = section;
            Check.due("12: section " + number, due[number], () -> yard.address(number));
        }
        Check.due("19: behind the last code", 49, yard::codeEnd);
        Check.due("13: the lower common", 1044, () -> yard.addressOf(2));
        Check.due("13: the higher common", 1052, () -> yard.addressOf(4));
        Check.due("20: behind the last common", 1057, yard::dataEnd);
        LinkerYard code = yard();
        code.addSection(0, true, 3, 16, 0, true);
        code.define(0, 0, 2, 's');
        code.link(0);
        Check.due("20: where data begin", 1000, code::dataEnd);
        Check.due("19: three units", 3, code::codeEnd);
    }

    private static void values() {
        LinkerYard yard = yard();
        yard.addSection(0, true, 10, 1, 1, false);
        yard.addSection(0, true, 10, 4, 2, false);
        yard.addSection(0, false, 10, 16, 3, false);
        yard.define(0, 0, 4, 's');
        yard.define(1, 1, 3, 's');
        yard.define(2, 2, 5, 's');
        yard.addCommon(0, 3, 7);
        yard.refer(1, 9, 0, 'c');
        yard.refer(0, 2, 1, 'c');
        yard.refer(1, 7, 2, 'a');
        yard.refer(2, 6, 0, 'a');
        yard.refer(2, 1, 3, 'a');
        yard.refer(2, 2, 2, 'c');
        yard.refer(0, 9, 3, 'c');
        Check.due("9: it links", '-', () -> yard.link(0));
        int[] due = {4 - 21, 15 - 2, 1013, 4, 1020, 1013 - 1010, 10 - 9};
        long sum = 0;
        for (int reference = 0; reference < due.length; reference++) {
            int number = reference;
            sum += due[number] * (number + 1L);
            Check.due("16: reference " + number, due[number], () -> yard.valueOf(number));
        }
        Check.due("21: the sum", sum, yard::checksum);
        Check.due("17: the last call reaches no common", true, () -> yard.hasIsland(6));
        Check.due("18: it is the only one", 1, yard::islands);
    }

    private static void unlaidValues() {
        LinkerYard yard = yard();
        yard.addSection(0, true, 4, 1, 0, true);
        yard.addSection(0, true, 4, 1, 0, true);
        yard.addSection(0, true, 4, 1, 1, false);
        yard.define(0, 0, 1, 's');
        for (int section = 0; section < 3; section++) {
            yard.refer(section, 3, 0, 'c');
        }
        yard.link(0);
        Check.due("11: one is folded, one does not live", "lfx", () -> "" + yard.fate(0) + yard.fate(1) + yard.fate(2));
        Check.due("16: of the laid one", -2, () -> yard.valueOf(0));
        Check.dueNoElement("16: of the folded one", () -> yard.valueOf(1));
        Check.dueNoElement("16: of one that does not live", () -> yard.valueOf(2));
        Check.due("21: of the laid one alone", -2, yard::checksum);
        Check.due("17: the folded one has none", false, () -> yard.hasIsland(1));
        Check.due("17: one that does not live has none", false, () -> yard.hasIsland(2));
    }

    /** A call over a gap of code, from offset 0 of section 0 to the last section. */
    private static LinkerYard gap(int reach, int offset) {
        LinkerYard yard = yard();
        yard.setReach(reach);
        yard.addSection(0, true, 60, 1, 1, false);
        yard.addSection(0, true, 40, 1, 2, true);
        yard.addSection(0, true, 64, 1, 3, false);
        yard.define(0, 0, 0, 's');
        yard.define(2, 1, offset, 's');
        yard.refer(0, 0, 1, 'c');
        yard.refer(2, offset, 0, 'c');
        yard.link(0);
        return yard;
    }

    private static void reach() {
        LinkerYard just = gap(110, 10);
        Check.due("17: just within reach, there", false, () -> just.hasIsland(0));
        Check.due("17: just within reach, back", false, () -> just.hasIsland(1));
        Check.due("16: there", 110, () -> just.valueOf(0));
        Check.due("16: back", -110, () -> just.valueOf(1));
        LinkerYard far = gap(109, 10);
        Check.due("17: one too far, there", true, () -> far.hasIsland(0));
        Check.due("17: one too far, back", true, () -> far.hasIsland(1));
        Check.due("18: both", 2, far::islands);
        Check.due("16: there by an island", 60, () -> far.valueOf(0));
        Check.due("16: back by an island", 54, () -> far.valueOf(1));
        Check.due("12: all behind is moved", 62, () -> far.address(1));
        Check.due("19: the island behind the last section counts", 168, far::codeEnd);
        Check.due("21: the sum", 60 + 2 * 54L, far::checksum);
        LinkerYard address = gap(80, 50);
        address.refer(0, 5, 1, 'a');
        address.link(0);
        Check.due("17: one that asks for the address needs none", false, () -> address.hasIsland(2));
        Check.due("16: the address", 152, () -> address.valueOf(2));
    }

    /** Three calls of one section, told by falling offsets, that do not reach. */
    private static void islandsInOrder() {
        LinkerYard yard = yard();
        yard.setReach(80);
        yard.addSection(0, true, 10, 1, 1, false);
        yard.addSection(0, true, 64, 1, 2, true);
        yard.addSection(0, true, 64, 1, 3, true);
        yard.define(0, 0, 0, 's');
        yard.define(2, 2, 20, 's');
        yard.refer(0, 9, 2, 'c');
        yard.refer(0, 5, 2, 'c');
        yard.refer(0, 1, 2, 'c');
        Check.due("9: it links", '-', () -> yard.link(0));
        Check.due("18: all three", 3, yard::islands);
        Check.due("16: the last offset, the third island", 14 - 9, () -> yard.valueOf(0));
        Check.due("16: the second island", 12 - 5, () -> yard.valueOf(1));
        Check.due("16: the first offset, the first island", 10 - 1, () -> yard.valueOf(2));
        Check.due("12: behind the islands", 16, () -> yard.address(1));
    }

    /** The island of the first call moves the goal of the call ahead of it out of reach. */
    private static void islandsThatPush() {
        LinkerYard yard = yard();
        yard.setReach(80);
        yard.addSection(0, true, 10, 1, 1, false);
        yard.addSection(0, true, 64, 1, 2, true);
        yard.addSection(0, true, 64, 1, 3, true);
        yard.define(0, 0, 0, 's');
        yard.define(2, 2, 7, 's');
        yard.define(2, 3, 50, 's');
        yard.refer(0, 1, 2, 'c');
        yard.refer(0, 5, 3, 'c');
        yard.refer(1, 0, 2, 'c');
        Check.due("9: it links", '-', () -> yard.link(0));
        Check.due("17: a call that reached first", true, () -> yard.hasIsland(0));
        Check.due("17: the call that came first", true, () -> yard.hasIsland(1));
        Check.due("17: a call that still reaches", false, () -> yard.hasIsland(2));
        Check.due("16: its island came first and stands first", 10 - 5, () -> yard.valueOf(1));
        Check.due("16: the other stands behind it", 12 - 1, () -> yard.valueOf(0));
        Check.due("19: two islands", 142, yard::codeEnd);
    }

    private static void islandsOfData() {
        LinkerYard yard = yard();
        yard.setReach(900);
        yard.addSection(0, false, 10, 1, 1, true);
        yard.addSection(0, false, 10, 8, 2, true);
        yard.addSection(0, true, 10, 1, 3, false);
        yard.define(2, 0, 0, 's');
        yard.refer(0, 3, 0, 'c');
        Check.due("9: it links", '-', () -> yard.link(0));
        Check.due("17: a call of a data section that is laid", true, () -> yard.hasIsland(0));
        Check.due("16: by an island behind it", 7, () -> yard.valueOf(0));
        Check.due("12: data behind it", 1016, () -> yard.address(1));
        Check.due("19: code is not moved", 10, yard::codeEnd);
        Check.due("20: behind the last data", 1026, yard::dataEnd);
        yard.refer(0, 1, 0, 'c');
        yard.refer(0, 2, 0, 'c');
        yard.refer(0, 0, 0, 'c');
        yard.link(0);
        Check.due("12: data behind four islands", 1024, () -> yard.address(1));
        yard.refer(1, 0, 0, 'c');
        yard.link(0);
        Check.due("18: five islands", 5, yard::islands);
        Check.due("20: the data end with the last island", 1036, yard::dataEnd);
        Check.due("37: that is sound", true, yard::isSound);
        yard.setRooms(999, 36);
        Check.due("9: the last island is within the room for data", '-', () -> yard.link(0));
        yard.setRooms(999, 35);
        Check.due("9: the last island is too much for data", 'r', () -> yard.link(0));
    }

    private static void islandsInRooms() {
        LinkerYard yard = yard();
        yard.addSection(0, true, 10, 1, 1, false);
        yard.define(0, 0, 0, 's');
        yard.addCommon(0, 3, 7);
        yard.refer(0, 0, 3, 'c');
        yard.setRooms(12, 7);
        Check.due("9: the island is within the room", '-', () -> yard.link(0));
        Check.due("19: with the island", 12, yard::codeEnd);
        yard.setRooms(11, 7);
        Check.due("9: the island is too much", 'r', () -> yard.link(0));
    }

    private static void commonsBehindIslands() {
        LinkerYard yard = yard();
        yard.setReach(900);
        yard.addSection(0, true, 10, 1, 1, false);
        yard.addSection(0, false, 7, 1, 2, true);
        yard.define(0, 0, 0, 's');
        yard.addCommon(0, 3, 1);
        yard.refer(1, 0, 0, 'c');
        yard.refer(1, 1, 3, 'a');
        yard.link(0);
        Check.due("13: a common behind an island", 1012, () -> yard.addressOf(3));
        Check.due("20: behind it", 1013, yard::dataEnd);
    }
}
