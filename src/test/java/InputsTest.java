/** Promises 1 to 8: a new object, and what is told of objects, sections, names, rooms and the reach. */
public final class InputsTest {
    private static final int MIN = Integer.MIN_VALUE;
    private static final int MAX = Integer.MAX_VALUE;

    private InputsTest() {
    }

    public static void main(String[] args) {
        newObject();
        newRoomsAndReach();
        addObject();
        addSection();
        define();
        addCommon();
        refer();
        setRooms();
        setReach();
        endOfLink();
        refusedKeepsLink();
        Check.end();
    }

    private static LinkerYard withSection(int size) {
        LinkerYard yard = new LinkerYard();
        yard.addObject(false);
        yard.addSection(0, true, size, 1, 0, false);
        return yard;
    }

    private static void newObject() {
        LinkerYard yard = new LinkerYard();
        Check.dueOutOfBounds("1: a section of no object", () -> yard.addSection(0, true, 1, 1, 0, false));
        Check.dueOutOfBounds("1: a definition in no section", () -> yard.define(0, 0, 0, 's'));
        Check.dueOutOfBounds("1: a common of no object", () -> yard.addCommon(0, 0, 1));
        Check.dueOutOfBounds("1: a reference in no section", () -> yard.refer(0, 0, 0, 'c'));
        Check.dueBadState("1: no link", yard::islands);
        Check.dueNoElement("1: no library", () -> yard.count(0));
        Check.dueOutOfBounds("1: nothing is loaded", () -> yard.loadedAt(0));
        Check.due("1: no bindings", 0, yard::bindings);
        Check.due("1: nobody refused", 0, () -> yard.tell(true, true));
        Check.due("1: the room for code", 999, () -> yard.setRooms(998, 997));
        Check.due("1: the reach", 999, () -> yard.setReach(998));
        LinkerYard other = new LinkerYard();
        Check.due("1: two objects are apart", 999, () -> other.setRooms(1, 1));
    }

    /** Fills a room of 999 units, and then one unit more. */
    private static void newRoomsAndReach() {
        for (int kind = 0; kind < 2; kind++) {
            boolean isCode = kind == 0;
            LinkerYard yard = new LinkerYard();
            yard.addObject(false);
            for (int section = 0; section < 15; section++) {
                yard.addSection(0, isCode, 64, 1, section, true);
            }
            yard.addSection(0, isCode, 39, 1, 0, true);
            yard.define(0, 0, 0, 's');
            Check.due("1: 999 units in a room", '-', () -> yard.link(0));
            Check.due("1: where code ends", isCode ? 999 : 0, yard::codeEnd);
            Check.due("1: where data end", isCode ? 1000 : 1999, yard::dataEnd);
            yard.addSection(0, isCode, 1, 1, 1, true);
            Check.due("1: 1000 units in a room", 'r', () -> yard.link(0));
        }
        LinkerYard yard = withSection(2);
        yard.addSection(0, false, 1, 1, 0, false);
        yard.define(0, 0, 0, 's');
        yard.define(1, 1, 0, 's');
        yard.refer(0, 1, 1, 'c');
        yard.link(0);
        Check.due("1: a call reaches 999 units", 0, yard::islands);
        yard.refer(0, 0, 1, 'c');
        yard.link(0);
        Check.due("1: a call does not reach 1000 units", 1, yard::islands);
    }

    private static void addObject() {
        LinkerYard yard = new LinkerYard();
        for (int object = 0; object < 10; object++) {
            int number = object;
            Check.due("2: object " + number, number, () -> yard.addObject(number % 2 == 1));
        }
        Check.dueBadState("2: an 11th object", () -> yard.addObject(false));
        Check.dueBadState("2: an 11th object, a member", () -> yard.addObject(true));
        yard.addCommon(0, 3, 1);
        yard.link(3);
        Check.due("2: a plain object is taken", true, () -> yard.isTaken(0));
        Check.due("2: a member nobody wants is not", false, () -> yard.isTaken(1));
        Check.due("2: the last object is there", false, () -> yard.isTaken(9));
        Check.dueOutOfBounds("2: there is no 11th", () -> yard.isTaken(10));
    }

    private static void addSection() {
        LinkerYard yard = new LinkerYard();
        yard.addObject(false);
        Check.dueOutOfBounds("3: object -1", () -> yard.addSection(-1, true, 1, 1, 0, false));
        Check.dueOutOfBounds("3: object 1 of 1", () -> yard.addSection(1, true, 1, 1, 0, false));
        Check.dueOutOfBounds("3: the object ahead of the size", () -> yard.addSection(1, true, 0, 0, -1, false));
        for (int size : new int[] {0, 65, -1, MIN, MAX}) {
            Check.dueBadArgument("3: size " + size, () -> yard.addSection(0, true, size, 1, 0, false));
        }
        for (int alignment : new int[] {0, -1, 3, 5, 6, 7, 9, 12, 15, 17, 32, -16, MIN, MAX}) {
            Check.dueBadArgument("3: alignment " + alignment, () -> yard.addSection(0, true, 1, alignment, 0, false));
        }
        for (int content : new int[] {-1, 1000, MIN, MAX}) {
            Check.dueBadArgument("3: content " + content, () -> yard.addSection(0, true, 1, 1, content, false));
        }
        int[] alignments = {1, 2, 4, 8, 16};
        for (int section = 0; section < 24; section++) {
            int number = section;
            int size = section == 0 ? 64 : 1;
            int content = section == 0 ? 999 : 0;
            Check.due("3: section " + number, number,
                    () -> yard.addSection(0, number % 2 == 0, size, alignments[number % 5], content, number < 2));
        }
        Check.dueBadState("3: a 25th section", () -> yard.addSection(0, true, 1, 1, 0, false));
        Check.dueBadArgument("3: a bad size ahead of a 25th", () -> yard.addSection(0, true, 65, 1, 0, false));
        Check.dueOutOfBounds("3: no object ahead of a 25th", () -> yard.addSection(1, true, 1, 1, 0, false));
        yard.define(2, 0, 0, 's');
        Check.due("3: it links", '-', () -> yard.link(0));
        Check.due("3: kept code", 0, () -> yard.address(0));
        Check.due("3: kept data", 1000, () -> yard.address(1));
        Check.due("3: the root", 64, () -> yard.address(2));
        Check.due("3: neither", 'x', () -> yard.fate(3));
        Check.due("3: the content of the root", 0, yard::run);
    }

    private static void define() {
        LinkerYard yard = withSection(4);
        yard.addSection(0, true, 64, 1, 0, false);
        Check.dueOutOfBounds("4: section -1", () -> yard.define(-1, 0, 0, 's'));
        Check.dueOutOfBounds("4: section 2 of 2", () -> yard.define(2, 16, 0, 'x'));
        for (int name : new int[] {-1, 16, MIN, MAX}) {
            Check.dueBadArgument("4: name " + name, () -> yard.define(0, name, 0, 's'));
        }
        for (int offset : new int[] {-1, 4, 5, MIN, MAX}) {
            Check.dueBadArgument("4: offset " + offset, () -> yard.define(0, 0, offset, 's'));
        }
        for (char strength : new char[] {'S', 'a', 'c', 0, 'W', '-', 65535}) {
            Check.dueBadArgument("4: strength " + (int) strength, () -> yard.define(0, 0, 0, strength));
        }
        Check.due("4: the first of a name", 1, () -> yard.define(0, 15, 3, 's'));
        Check.dueBadState("4: the name again", () -> yard.define(0, 15, 3, 's'));
        Check.dueBadState("4: the name again, locally", () -> yard.define(0, 15, 0, 'l'));
        Check.dueBadArgument("4: the offset ahead of the name again", () -> yard.define(0, 15, 4, 's'));
        Check.due("4: the second of a name", 2, () -> yard.define(1, 15, 63, 'w'));
        Check.due("4: the first of another name", 1, () -> yard.define(0, 0, 0, 'l'));
        yard.addCommon(0, 1, 1);
        Check.due("4: commons do not count", 1, () -> yard.define(0, 1, 3, 'w'));
        Check.due("4: two names at one offset", 1, () -> yard.define(0, 2, 3, 'w'));
        yard.addSection(0, false, 1, 1, 0, false);
        for (int name = 0; name < 16; name++) {
            yard.define(2, name, 0, 'l');
        }
        yard.addSection(0, false, 1, 1, 0, false);
        for (int name = 0; name < 16; name++) {
            yard.define(3, name, 0, 'w');
        }
        yard.define(1, 0, 0, 'l');
        yard.define(1, 1, 0, 'l');
        Check.due("4: the 40th", 4, () -> yard.define(1, 2, 0, 'l'));
        Check.dueBadState("4: a 41st", () -> yard.define(1, 3, 0, 'l'));
        Check.dueBadArgument("4: a bad strength ahead of a 41st", () -> yard.define(1, 3, 0, 'q'));
        Check.dueOutOfBounds("4: no section ahead of a 41st", () -> yard.define(4, 3, 0, 'l'));
    }

    private static void addCommon() {
        LinkerYard yard = new LinkerYard();
        yard.addObject(false);
        yard.addObject(false);
        Check.dueOutOfBounds("5: object -1", () -> yard.addCommon(-1, 0, 1));
        Check.dueOutOfBounds("5: object 2 of 2", () -> yard.addCommon(2, 16, 0));
        for (int name : new int[] {-1, 16, MIN, MAX}) {
            Check.dueBadArgument("5: name " + name, () -> yard.addCommon(0, name, 1));
        }
        for (int size : new int[] {0, -1, 65, MIN, MAX}) {
            Check.dueBadArgument("5: size " + size, () -> yard.addCommon(0, 0, size));
        }
        Check.due("5: the first for a name", 1, () -> yard.addCommon(0, 15, 64));
        Check.dueBadState("5: again in the object", () -> yard.addCommon(0, 15, 1));
        Check.dueBadArgument("5: a bad size ahead of that", () -> yard.addCommon(0, 15, 0));
        Check.due("5: the second for a name", 2, () -> yard.addCommon(1, 15, 1));
        Check.due("5: another name", 1, () -> yard.addCommon(1, 0, 1));
        LinkerYard full = new LinkerYard();
        for (int object = 0; object < 10; object++) {
            int number = full.addObject(false);
            for (int name = 0; name < 16; name++) {
                int asked = name;
                Check.due("5: for name " + name + " in " + number, number + 1,
                        () -> full.addCommon(number, asked, 1 + number));
            }
        }
        Check.dueBadState("5: all are there", () -> full.addCommon(9, 15, 1));
        Check.due("5: it links", '-', () -> full.link(15));
        Check.due("5: the greatest one counts", 1010, full::dataEnd);
    }

    private static void refer() {
        LinkerYard yard = withSection(8);
        yard.addSection(0, true, 64, 1, 0, false);
        Check.dueOutOfBounds("6: section -1", () -> yard.refer(-1, 0, 0, 'c'));
        Check.dueOutOfBounds("6: section 2 of 2", () -> yard.refer(2, -1, 16, 'x'));
        for (int offset : new int[] {-1, 8, MIN, MAX}) {
            Check.dueBadArgument("6: offset " + offset, () -> yard.refer(0, offset, 0, 'c'));
        }
        for (int name : new int[] {-1, 16, MIN, MAX}) {
            Check.dueBadArgument("6: name " + name, () -> yard.refer(0, 0, name, 'c'));
        }
        for (char kind : new char[] {'C', 's', 'b', 0, 65535}) {
            Check.dueBadArgument("6: kind " + (int) kind, () -> yard.refer(0, 0, 0, kind));
        }
        Check.due("6: the first", 0, () -> yard.refer(0, 7, 15, 'c'));
        Check.dueBadState("6: at this offset again", () -> yard.refer(0, 7, 0, 'a'));
        Check.dueBadArgument("6: a bad kind ahead of that", () -> yard.refer(0, 7, 0, 'x'));
        Check.due("6: at this offset in another section", 1, () -> yard.refer(1, 7, 0, 'a'));
        yard.refer(0, 0, 0, 'a');
        yard.refer(0, 1, 0, 'c');
        Check.due("6: the fourth in a section", 4, () -> yard.refer(0, 2, 0, 'c'));
        Check.dueBadState("6: a fifth in a section", () -> yard.refer(0, 3, 0, 'c'));
        for (int section = 2; section < 12; section++) {
            yard.addSection(0, true, 4, 1, 0, false);
        }
        for (int number = 5; number < 40; number++) {
            int next = number;
            Check.due("6: reference " + number, number, () -> yard.refer(2 + (next - 5) / 4, (next - 5) % 4, 0, 'c'));
        }
        Check.dueBadState("6: a 41st", () -> yard.refer(11, 0, 0, 'c'));
        Check.dueBadArgument("6: a bad offset ahead of a 41st", () -> yard.refer(11, 4, 0, 'c'));
        Check.dueOutOfBounds("6: no section ahead of a 41st", () -> yard.refer(12, 0, 0, 'c'));
    }

    private static void setRooms() {
        LinkerYard yard = new LinkerYard();
        for (int room : new int[] {0, -1, 1000, MIN, MAX}) {
            Check.dueBadArgument("7: room for code " + room, () -> yard.setRooms(room, 1));
            Check.dueBadArgument("7: room for data " + room, () -> yard.setRooms(1, room));
        }
        Check.due("7: nothing was changed by that", 999, () -> yard.setRooms(1, 999));
        Check.due("7: the room for code before", 1, () -> yard.setRooms(999, 1));
        Check.due("7: the room for code before that", 999, () -> yard.setRooms(12, 10));
        yard.addObject(false);
        yard.addSection(0, true, 12, 1, 0, true);
        yard.addSection(0, false, 10, 1, 0, true);
        yard.define(0, 0, 0, 's');
        Check.due("7: both rooms are just enough", '-', () -> yard.link(0));
        yard.setRooms(11, 10);
        Check.due("7: one less for code", 'r', () -> yard.link(0));
        yard.setRooms(12, 9);
        Check.due("7: one less for data", 'r', () -> yard.link(0));
    }

    private static void setReach() {
        LinkerYard yard = new LinkerYard();
        for (int reach : new int[] {79, 0, -80, 1000, MIN, MAX}) {
            Check.dueBadArgument("8: reach " + reach, () -> yard.setReach(reach));
        }
        Check.due("8: nothing was changed by that", 999, () -> yard.setReach(80));
        Check.due("8: the reach before", 80, () -> yard.setReach(999));
        Check.due("8: the reach before that", 999, () -> yard.setReach(500));
    }

    private static LinkerYard linked() {
        LinkerYard yard = withSection(4);
        yard.define(0, 0, 0, 's');
        yard.link(0);
        return yard;
    }

    private static void endOfLink() {
        Check.Call[] ends = new Check.Call[7];
        LinkerYard[] yards = new LinkerYard[7];
        for (int way = 0; way < 7; way++) {
            yards[way] = linked();
            Check.due("2 to 8: a link", 4, yards[way]::codeEnd);
        }
        ends[0] = () -> yards[0].addObject(true);
        ends[1] = () -> yards[1].addSection(0, true, 1, 1, 0, false);
        ends[2] = () -> yards[2].define(0, 1, 0, 'l');
        ends[3] = () -> yards[3].addCommon(0, 1, 1);
        ends[4] = () -> yards[4].refer(0, 0, 0, 'c');
        ends[5] = () -> yards[5].setRooms(999, 999);
        ends[6] = () -> yards[6].setReach(999);
        for (int way = 0; way < 7; way++) {
            ends[way].answer();
            Check.dueBadState("2 to 8: the link is gone by way " + way, yards[way]::codeEnd);
        }
    }

    private static void refusedKeepsLink() {
        LinkerYard yard = linked();
        Check.dueBadArgument("3: refused", () -> yard.addSection(0, true, 65, 1, 0, false));
        Check.dueBadState("4: refused", () -> yard.define(0, 0, 0, 's'));
        Check.dueBadArgument("5: refused", () -> yard.addCommon(0, 0, 65));
        Check.dueBadArgument("6: refused", () -> yard.refer(0, 4, 0, 'c'));
        Check.dueBadArgument("7: refused", () -> yard.setRooms(1, 1000));
        Check.dueBadArgument("8: refused", () -> yard.setReach(1000));
        Check.dueBadArgument("9: refused", () -> yard.link(16));
        Check.due("3 to 9: what is refused keeps the link", 4, yard::codeEnd);
        yard.addLibrary();
        yard.load(0);
        Check.due("25, 28: libraries keep the link", 4, yard::codeEnd);
    }
}
