/** The sentences about inputs that name a boundary: terms from objects to references, promises 1 to 8. */
public final class InputsEdgeTest {
    private static final int MIN = Integer.MIN_VALUE;
    private static final int MAX = Integer.MAX_VALUE;
    private static final String[] MIXES = {"pppppppppp", "mmmmmmmmmm", "pmpmpmpmpm"};

    private InputsEdgeTest() {
    }

    public static void main(String[] args) {
        nothingAtFirst();
        roomsAtFirst();
        reachAtFirst();
        objects();
        sectionsInAll();
        objectOfSection();
        sizeOfSection();
        alignmentOfSection();
        contentOfSection();
        namesOfDefinitions();
        offsetsOfDefinitions();
        sectionOfDefinition();
        strengths();
        definitionsInAll();
        definedOnce();
        definitionsCounted();
        objectOfCommon();
        sizesOfCommons();
        namesOfCommons();
        commonOnce();
        commonsCounted();
        referencesInAll();
        sectionOfReference();
        offsetsOfReferences();
        namesOfReferences();
        kinds();
        referencesOfSection();
        referencesAtOffset();
        rooms();
        roomBefore();
        reach();
        reachBefore();
        Check.end();
    }

    private static LinkerYard withSection(int size) {
        LinkerYard yard = Build.objects("p");
        Build.code(yard, 0, size, 0);
        return yard;
    }

    private static boolean isBetween(int number, int least, int most) {
        return number >= least && number <= most;
    }

    private static void nothingAtFirst() {
        Check.sentence("1: a yard without objects, libraries and a link");
        Check.dueOutOfBounds("a section of object 0", () -> new LinkerYard().addSection(0, true, 1, 1, 0, false));
        Check.dueOutOfBounds("a common of object 0", () -> new LinkerYard().addCommon(0, 0, 1));
        Check.dueOutOfBounds("a definition in section 0", () -> new LinkerYard().define(0, 0, 0, 's'));
        Check.dueOutOfBounds("a reference in section 0", () -> new LinkerYard().refer(0, 0, 0, 'c'));
        Check.dueOutOfBounds("whether object 0 is taken", () -> new LinkerYard().isTaken(0));
        Check.dueOutOfBounds("the fate of section 0", () -> new LinkerYard().fate(0));
        Check.dueOutOfBounds("the value of reference 0", () -> new LinkerYard().valueOf(0));
        Check.dueNoElement("the count of library 0", () -> new LinkerYard().count(0));
        Check.dueNoElement("a load of library 0", () -> new LinkerYard().load(0));
        Check.dueOutOfBounds("the library at place 0", () -> new LinkerYard().loadedAt(0));
        Check.due("bindings", 0, () -> new LinkerYard().bindings());
        Check.dueBadState("where the code of no link ends", () -> new LinkerYard().codeEnd());
        Check.due("the first object", 0, () -> new LinkerYard().addObject(false));
        Check.due("the first library", 0, () -> new LinkerYard().addLibrary());
        Check.due("the first section", 0, () -> Build.code(Build.objects("p"), 0, 1, 0));
        Check.due("the first reference", 0, () -> withSection(1).refer(0, 0, 0, 'c'));
    }

    /** Kept sections of 999 units, the last one of 39, in one of the rooms; the root is a common. */
    private static LinkerYard full(boolean isCode) {
        LinkerYard yard = Build.objects("p");
        for (int section = 0; section < 15; section++) {
            yard.addSection(0, isCode, 64, 1, section, true);
        }
        yard.addSection(0, isCode, 39, 1, 15, true);
        yard.define(15, 0, 38, 's');
        return yard;
    }

    private static void roomsAtFirst() {
        Check.sentence("1: the rooms are 999 units each");
        for (boolean isCode : new boolean[] {true, false}) {
            Check.due("999 units, code: " + isCode, '-', () -> full(isCode).link(0));
            LinkerYard more = full(isCode);
            more.addSection(0, isCode, 1, 1, 16, true);
            Check.due("1000 units, code: " + isCode, 'r', () -> more.link(0));
        }
        Check.due("the room for code before", 999, () -> new LinkerYard().setRooms(1, 1));
    }

    private static void reachAtFirst() {
        Check.sentence("1: calls reach 999 units");
        for (int offset = 0; offset < 2; offset++) {
            int at = offset;
            LinkerYard there = withSection(2);
            there.define(0, 0, 0, 's');
            there.addCommon(0, 1, 4);
            there.refer(0, at, 1, 'c');
            there.link(0);
            Check.due("over " + (1000 - at) + " units", at == 0, () -> there.hasIsland(0));
            LinkerYard back = withSection(2);
            Build.keptData(back, 0, 4);
            back.define(0, 0, at, 's');
            back.refer(1, 0, 0, 'c');
            back.link(0);
            Check.due("back over " + (1000 - at) + " units", at == 0, () -> back.hasIsland(0));
        }
        Check.due("the reach before", 999, () -> new LinkerYard().setReach(80));
    }

    private static void objects() {
        Check.sentence("At most 10 objects exist, numbered from 0");
        for (String mix : MIXES) {
            LinkerYard yard = new LinkerYard();
            for (int object = 0; object < 10; object++) {
                int number = object;
                Check.due("object " + number + " of " + mix, number, () -> yard.addObject(mix.charAt(number) == 'm'));
            }
            Check.dueBadState("an 11th, plain, behind " + mix, () -> yard.addObject(false));
            Check.dueBadState("an 11th, a member, behind " + mix, () -> yard.addObject(true));
            Check.due("a section of the 10th of " + mix, 0, () -> Build.code(yard, 9, 1, 0));
            Check.dueOutOfBounds("a section of an 11th behind " + mix, () -> Build.code(yard, 10, 1, 0));
        }
    }

    private static void sectionsInAll() {
        Check.sentence("At most 24 sections exist, numbered from 0");
        LinkerYard one = Build.objects("p");
        LinkerYard many = Build.objects("pmpmpmpmpm");
        for (int section = 0; section < 24; section++) {
            int number = section;
            Check.due("section " + number + " of one object", number, () -> Build.code(one, 0, 1, 0));
            Check.due("section " + number + " of many", number, () -> Build.data(many, number % 10, 64));
        }
        Check.dueBadState("a 25th, code", () -> Build.code(one, 0, 1, 0));
        Check.dueBadState("a 25th, data", () -> Build.data(one, 0, 1));
        Check.dueBadState("a 25th in another object", () -> Build.code(many, 5, 1, 0));
        Check.due("a definition in the 24th", 1, () -> one.define(23, 0, 0, 's'));
        Check.dueOutOfBounds("a definition in a 25th", () -> one.define(24, 0, 0, 's'));
        Check.due("a reference in the 24th", 0, () -> one.refer(23, 0, 0, 'c'));
        Check.dueOutOfBounds("a reference in a 25th", () -> one.refer(24, 0, 0, 'c'));
        one.link(0);
        Check.due("the fate of the 24th", 'l', () -> one.fate(23));
        Check.dueOutOfBounds("the fate of a 25th", () -> one.fate(24));
    }

    private static void objectOfSection() {
        Check.sentence("3: IndexOutOfBoundsException if there is no such object");
        for (int objects = 0; objects <= 10; objects++) {
            String kinds = MIXES[2].substring(0, objects);
            for (int object : new int[] {MIN, -1, 0, objects - 1, objects, 10, MAX}) {
                boolean isThere = isBetween(object, 0, objects - 1);
                Check.due("object " + object + " of " + objects, isThere ? 0 : "throws IndexOutOfBoundsException",
                        () -> Build.code(Build.objects(kinds), object, 1, 0));
            }
        }
    }

    private static void dueSection(String what, boolean isAllowed, int size, int alignment, int content) {
        for (boolean isCode : new boolean[] {true, false}) {
            Check.due(what + ", code: " + isCode, isAllowed ? 0 : "throws IllegalArgumentException",
                    () -> Build.objects("p").addSection(0, isCode, size, alignment, content, isCode));
        }
    }

    private static void sizeOfSection() {
        Check.sentence("a section with a size from 1 to 64 units");
        for (int size = -70; size <= 140; size++) {
            dueSection("size " + size, isBetween(size, 1, 64), size, 1, 0);
        }
        for (int size : new int[] {MIN, MIN + 1, 65536 + 1, MAX}) {
            dueSection("size " + size, false, size, 1, 0);
        }
        for (int size : new int[] {1, 2, 63, 64}) {
            LinkerYard yard = withSection(size);
            yard.define(0, 0, 0, 's');
            yard.link(0);
            Check.due("where code of size " + size + " ends", size, yard::codeEnd);
        }
    }

    private static void alignmentOfSection() {
        Check.sentence("an alignment of 1, 2, 4, 8 or 16");
        for (int alignment = -33; alignment <= 65; alignment++) {
            boolean isAllowed = alignment == 1 || alignment == 2 || alignment == 4 || alignment == 8 || alignment == 16;
            dueSection("alignment " + alignment, isAllowed, 1, alignment, 0);
        }
        for (int alignment : new int[] {MIN, 1 << 16, 1 << 30, MAX}) {
            dueSection("alignment " + alignment, false, 1, alignment, 0);
        }
    }

    private static void contentOfSection() {
        Check.sentence("a content from 0 to 999");
        for (int content : new int[] {0, 1, 998, 999}) {
            dueSection("content " + content, true, 1, 1, content);
            LinkerYard yard = Build.objects("p");
            Build.code(yard, 0, 1, content);
            yard.define(0, 0, 0, 's');
            yard.link(0);
            Check.due("the output of content " + content, content, yard::run);
        }
        for (int content : new int[] {MIN, -999, -1, 1000, 1001, 65536, MAX}) {
            dueSection("content " + content, false, 1, 1, content);
        }
    }

    private static void namesOfDefinitions() {
        Check.sentence("There are the names 0 to 15, for definitions");
        LinkerYard yard = withSection(1);
        for (int name : new int[] {MIN, -16, -1, 0, 1, 14, 15, 16, 17, 31, 32, MAX}) {
            Check.due("name " + name, isBetween(name, 0, 15) ? 1 : "throws IllegalArgumentException",
                    () -> yard.define(0, name, 0, 'w'));
        }
    }

    private static void offsetsOfDefinitions() {
        Check.sentence("A section can define a name at an offset less than its size");
        for (int size : new int[] {1, 2, 63, 64}) {
            for (int offset : new int[] {MIN, -1, 0, size - 1, size, size + 1, 64, 65, MAX}) {
                LinkerYard yard = withSection(64);
                Build.code(yard, 0, size, 0);
                Build.code(yard, 0, 64, 0);
                boolean isAllowed = isBetween(offset, 0, size - 1);
                Check.due("offset " + offset + " of " + size, isAllowed ? 1 : "throws IllegalArgumentException",
                        () -> yard.define(1, 0, offset, 's'));
                if (isAllowed) {
                    yard.link(0);
                    Check.due("the address at offset " + offset, offset, () -> yard.addressOf(0));
                }
            }
        }
    }

    private static void sectionOfDefinition() {
        Check.sentence("4: IndexOutOfBoundsException if there is no such section");
        for (int section : new int[] {MIN, -1, 0, 1, 2, 24, MAX}) {
            LinkerYard yard = withSection(1);
            Build.data(yard, 0, 1);
            Check.due("section " + section + " of 2", isBetween(section, 0, 1) ? 1 : "throws IndexOutOfBoundsException",
                    () -> yard.define(section, 0, 0, 's'));
        }
    }

    private static void strengths() {
        Check.sentence("strongly, 's', weakly, 'w', or locally, 'l'");
        for (int sign = 0; sign <= Character.MAX_VALUE; sign++) {
            char strength = (char) sign;
            boolean isAllowed = strength == 's' || strength == 'w' || strength == 'l';
            LinkerYard yard = withSection(1);
            Check.due("strength " + sign, isAllowed ? 1 : "throws IllegalArgumentException",
                    () -> yard.define(0, 0, 0, strength));
        }
    }

    /** Sections 0 to 2 with 40 definitions, the last section with 8 of them, of one strength or of all. */
    private static LinkerYard defined(String strengths, int definitions) {
        LinkerYard yard = Build.objects("pm");
        for (int section = 0; section < 4; section++) {
            Build.code(yard, section % 2, 1, 0);
        }
        for (int number = 0; number < definitions; number++) {
            yard.define(number / 16, number % 16, 0, strengths.charAt(number % strengths.length()));
        }
        return yard;
    }

    private static void definitionsInAll() {
        Check.sentence("at most 40 such definitions exist");
        for (String strengths : new String[] {"s", "w", "l", "swl"}) {
            for (char last : new char[] {'s', 'w', 'l'}) {
                LinkerYard yard = defined(strengths, 39);
                Check.due("the 40th, " + last + " behind " + strengths, 4, () -> yard.define(3, 0, 0, last));
                Check.dueBadState("a 41st in the same section", () -> yard.define(3, 1, 0, last));
                Check.dueBadState("a 41st in another section", () -> yard.define(2, 15, 0, last));
            }
        }
        LinkerYard commons = defined("w", 0);
        for (int name = 0; name < 16; name++) {
            commons.addCommon(0, name, 1);
            commons.addCommon(1, name, 1);
        }
        for (int number = 0; number < 40; number++) {
            int place = number;
            Check.due("definition " + number + " beside 32 commons", 1 + place / 16,
                    () -> commons.define(place / 16, place % 16, 0, 'w'));
        }
        Check.dueBadState("a 41st beside commons", () -> commons.define(3, 0, 0, 'w'));
        LinkerYard last = defined("l", 39);
        last.define(3, 15, 0, 's');
        Check.due("the 40th counts", '-', () -> last.link(15));
        Check.due("the name of the 40th stands for it", 0, () -> last.addressOf(15));
    }

    private static void definedOnce() {
        Check.sentence("a section defines a name at most once");
        for (char first : new char[] {'s', 'w', 'l'}) {
            for (char second : new char[] {'s', 'w', 'l'}) {
                for (int name : new int[] {0, 15}) {
                    LinkerYard yard = withSection(2);
                    Build.code(yard, 0, 2, 0);
                    yard.define(0, name, 0, first);
                    Check.dueBadState(first + " and " + second + " at one offset", () -> yard.define(0, name, 0,
                            second));
                    Check.dueBadState(first + " and " + second, () -> yard.define(0, name, 1, second));
                    Check.due("in another section " + second, 2, () -> yard.define(1, name, 0, second));
                    Check.due("another name " + second, 1, () -> yard.define(0, 15 - name, 0, second));
                    Check.dueBadState("then the first name again", () -> yard.define(0, name, 1, second));
                }
            }
        }
    }

    private static void definitionsCounted() {
        Check.sentence("4: Returns the number of definitions of this name in all sections");
        LinkerYard yard = Build.objects("pmpmpmpmpm");
        for (int section = 0; section < 24; section++) {
            int number = section;
            yard.addSection(number % 10, number % 3 == 0, 1, 1, 0, false);
            Check.due("section " + number, number + 1, () -> yard.define(number, 7, 0, "swl".charAt(number % 3)));
        }
        for (int section = 0; section < 16; section++) {
            int number = section;
            Check.due("another name in section " + number, 1 + number / 2,
                    () -> yard.define(number, number % 2 == 0 ? 6 : 8, 0, 'w'));
        }
        LinkerYard common = withSection(1);
        common.addCommon(0, 7, 1);
        common.refer(0, 0, 7, 'c');
        Check.due("beside a common and a reference", 1, () -> common.define(0, 7, 0, 's'));
    }

    private static void objectOfCommon() {
        Check.sentence("5: IndexOutOfBoundsException if there is no such object");
        for (int object : new int[] {MIN, -1, 0, 1, 2, 10, MAX}) {
            Check.due("object " + object + " of 2", isBetween(object, 0, 1) ? 1 : "throws IndexOutOfBoundsException",
                    () -> Build.objects("pm").addCommon(object, 0, 1));
        }
        Check.due("object 9 of 10", 1, () -> Build.objects(MIXES[0]).addCommon(9, 0, 1));
        Check.dueOutOfBounds("object 10 of 10", () -> Build.objects(MIXES[0]).addCommon(10, 0, 1));
    }

    private static void sizesOfCommons() {
        Check.sentence("a common for a name, with a size from 1 to 64");
        for (int size : new int[] {MIN, -1, 0, 1, 2, 63, 64, 65, 66, 128, MAX}) {
            LinkerYard yard = Build.objects("p");
            boolean isAllowed = isBetween(size, 1, 64);
            Check.due("size " + size, isAllowed ? 1 : "throws IllegalArgumentException",
                    () -> yard.addCommon(0, 0, size));
            if (isAllowed) {
                yard.link(0);
                Check.due("where a common of size " + size + " ends", 1000 + size, yard::dataEnd);
            }
        }
    }

    private static void namesOfCommons() {
        Check.sentence("There are the names 0 to 15, for commons");
        LinkerYard yard = Build.objects("p");
        for (int name : new int[] {MIN, -16, -1, 0, 1, 14, 15, 16, 17, 31, 32, MAX}) {
            Check.due("name " + name, isBetween(name, 0, 15) ? 1 : "throws IllegalArgumentException",
                    () -> yard.addCommon(0, name, 1));
        }
    }

    private static void commonOnce() {
        Check.sentence("an object has at most one common for a name");
        for (int name : new int[] {0, 15}) {
            LinkerYard yard = Build.objects("pm");
            yard.addCommon(0, name, 5);
            Check.dueBadState("of the same size", () -> yard.addCommon(0, name, 5));
            Check.dueBadState("of another size", () -> yard.addCommon(0, name, 64));
            Check.due("in another object", 2, () -> yard.addCommon(1, name, 5));
            Check.dueBadState("again in the other object", () -> yard.addCommon(1, name, 5));
            Check.due("for another name", 1, () -> yard.addCommon(0, 15 - name, 5));
            yard.link(name);
            Check.due("the refused size does not count", 1005, yard::dataEnd);
        }
        LinkerYard defined = withSection(1);
        defined.define(0, 0, 0, 's');
        Check.due("for a name that the object defines", 1, () -> defined.addCommon(0, 0, 1));
    }

    private static void commonsCounted() {
        Check.sentence("5: Returns the number of commons for this name in all objects");
        LinkerYard yard = Build.objects(MIXES[2]);
        for (int object = 0; object < 10; object++) {
            for (int name = 0; name < 16; name++) {
                int in = object;
                int asked = name;
                Check.due("for name " + name + " in " + object, object + 1, () -> yard.addCommon(in, asked, 64));
            }
        }
        for (int name = 0; name < 16; name++) {
            int asked = name;
            Check.dueBadState("one more for name " + name, () -> yard.addCommon(9, asked, 64));
        }
        Check.due("the last of all stands there", '-', () -> yard.link(15));
        LinkerYard last = Build.objects("pppppppppp");
        for (int number = 0; number < 160; number++) {
            last.addCommon(number / 16, number % 16, number == 159 ? 64 : 1);
        }
        last.link(15);
        Check.due("the last of 160 counts", 1064, last::dataEnd);
    }

    /** Sections of size 4; each of the first ones has 4 references. */
    private static LinkerYard referring(int references) {
        LinkerYard yard = Build.objects("pm");
        for (int section = 0; section < 11; section++) {
            yard.addSection(section % 2, section % 3 > 0, 4, 1, 0, false);
        }
        for (int number = 0; number < references; number++) {
            yard.refer(number / 4, number % 4, number % 16, number % 3 == 0 ? 'a' : 'c');
        }
        return yard;
    }

    private static void referencesInAll() {
        Check.sentence("At most 40 references exist, numbered from 0");
        LinkerYard yard = referring(0);
        for (int number = 0; number < 39; number++) {
            int next = number;
            Check.due("reference " + number, number,
                    () -> yard.refer(next / 4, next % 4, next % 16, next % 2 == 0 ? 'a' : 'c'));
        }
        Check.due("reference 39", 39, () -> yard.refer(10, 3, 5, 'c'));
        Check.dueBadState("a 41st, a call", () -> yard.refer(10, 0, 0, 'c'));
        Check.dueBadState("a 41st that asks for an address", () -> yard.refer(9, 3, 0, 'a'));
        Check.dueBadState("a 41st in a section with 4", () -> yard.refer(0, 0, 0, 'a'));
        yard.addCommon(0, 15, 1);
        yard.link(15);
        Check.due("the 40th is there", false, () -> yard.hasIsland(39));
        Check.dueOutOfBounds("a 41st is not", () -> yard.hasIsland(40));
    }

    private static void sectionOfReference() {
        Check.sentence("6: IndexOutOfBoundsException if there is no such section");
        for (int section : new int[] {MIN, -1, 0, 1, 2, 24, MAX}) {
            LinkerYard yard = withSection(1);
            Build.data(yard, 0, 1);
            Check.due("section " + section + " of 2", isBetween(section, 0, 1) ? 0 : "throws IndexOutOfBoundsException",
                    () -> yard.refer(section, 0, 0, 'c'));
        }
    }

    private static void offsetsOfReferences() {
        Check.sentence("A reference is in a section, at an offset less than its size");
        for (int size : new int[] {1, 2, 63, 64}) {
            for (int offset : new int[] {MIN, -1, 0, size - 1, size, size + 1, 64, 65, MAX}) {
                LinkerYard yard = withSection(64);
                Build.code(yard, 0, size, 0);
                Build.code(yard, 0, 64, 0);
                boolean isAllowed = isBetween(offset, 0, size - 1);
                Check.due("offset " + offset + " of " + size, isAllowed ? 0 : "throws IllegalArgumentException",
                        () -> yard.refer(1, offset, 0, 'c'));
                if (isAllowed) {
                    yard.define(1, 0, 0, 's');
                    yard.link(0);
                    Check.due("the value at offset " + offset, -offset, () -> yard.valueOf(0));
                }
            }
        }
    }

    private static void namesOfReferences() {
        Check.sentence("There are the names 0 to 15, for references");
        for (int name : new int[] {MIN, -16, -1, 0, 1, 14, 15, 16, 17, 31, 32, MAX}) {
            Check.due("name " + name, isBetween(name, 0, 15) ? 0 : "throws IllegalArgumentException",
                    () -> withSection(1).refer(0, 0, name, 'a'));
        }
    }

    private static void kinds() {
        Check.sentence("it is a call, 'c', or asks for the address, 'a'");
        for (int sign = 0; sign <= Character.MAX_VALUE; sign++) {
            char kind = (char) sign;
            LinkerYard yard = withSection(1);
            Check.due("kind " + sign, kind == 'c' || kind == 'a' ? 0 : "throws IllegalArgumentException",
                    () -> yard.refer(0, 0, 0, kind));
        }
    }

    private static void referencesOfSection() {
        Check.sentence("A section has at most 4 references");
        for (String kinds : new String[] {"cccc", "aaaa", "caca"}) {
            for (int section = 0; section < 2; section++) {
                LinkerYard yard = withSection(64);
                Build.data(yard, 0, 64);
                int in = section;
                for (int place = 0; place < 4; place++) {
                    int number = place;
                    Check.due("reference " + number + " of " + kinds, number,
                            () -> yard.refer(in, 63 - 21 * number, number, kinds.charAt(number)));
                }
                Check.dueBadState("a fifth, a call, behind " + kinds, () -> yard.refer(in, 1, 0, 'c'));
                Check.dueBadState("a fifth that asks for an address", () -> yard.refer(in, 62, 15, 'a'));
                Check.due("one in the other section", 4, () -> yard.refer(1 - in, 1, 0, 'c'));
            }
        }
    }

    private static void referencesAtOffset() {
        Check.sentence("no two references at the same offset");
        for (int offset : new int[] {0, 1, 62, 63}) {
            for (char first : new char[] {'c', 'a'}) {
                for (char second : new char[] {'c', 'a'}) {
                    LinkerYard yard = withSection(64);
                    Build.code(yard, 0, 64, 0);
                    yard.define(0, 3, offset, 's');
                    Check.due("where a definition stands", 0, () -> yard.refer(0, offset, 3, first));
                    Check.dueBadState("again, " + first + second, () -> yard.refer(0, offset, 3, second));
                    Check.dueBadState("to another name, " + first + second, () -> yard.refer(0, offset, 4, second));
                    Check.due("beside it", 1, () -> yard.refer(0, offset ^ 1, 3, second));
                    Check.due("in another section", 2, () -> yard.refer(1, offset, 3, second));
                    Check.dueBadState("once more", () -> yard.refer(0, offset, 3, second));
                }
            }
        }
        LinkerYard small = withSection(1);
        small.refer(0, 0, 0, 'c');
        Check.dueBadState("a second one in a section of size 1", () -> small.refer(0, 0, 1, 'a'));
    }

    private static void rooms() {
        Check.sentence("7: the room for code, 1 to 999; the room for data, 1 to 999");
        int[] rooms = {MIN, -999, -1, 0, 1, 2, 998, 999, 1000, 1001, MAX};
        for (int code : rooms) {
            for (int data : rooms) {
                boolean isCode = isBetween(code, 1, 999);
                boolean isData = isBetween(data, 1, 999);
                LinkerYard yard = new LinkerYard();
                Check.due("rooms " + code + " and " + data, isCode && isData ? 999 : "throws IllegalArgumentException",
                        () -> yard.setRooms(code, data));
                Check.due("the room for code behind it", isCode && isData ? code : 999, () -> yard.setRooms(5, 5));
            }
        }
        for (int isCode = 0; isCode < 2; isCode++) {
            LinkerYard least = Build.objects("p");
            least.addSection(0, isCode == 0, 1, 1, 0, true);
            least.addSection(0, isCode == 1, 2, 1, 0, true);
            least.define(0, 0, 0, 's');
            least.setRooms(isCode == 0 ? 1 : 2, isCode == 0 ? 2 : 1);
            Check.due("a room of 1 for 1 unit", '-', () -> least.link(0));
            least.setRooms(1, 1);
            Check.due("a room of 1 for 2 units", 'r', () -> least.link(0));
        }
    }

    private static void roomBefore() {
        Check.sentence("7: Returns the room for code before");
        LinkerYard yard = new LinkerYard();
        Check.due("the first time", 999, () -> yard.setRooms(10, 20));
        Check.due("the second time", 10, () -> yard.setRooms(10, 30));
        Check.due("the same again", 10, () -> yard.setRooms(999, 1));
        Check.due("the greatest", 999, () -> yard.setRooms(1, 999));
        Check.due("the least", 1, () -> yard.setRooms(1, 1));
    }

    private static void reach() {
        Check.sentence("8: the reach, 80 to 999");
        for (int reach : new int[] {MIN, -999, -80, -1, 0, 1, 79, 80, 81, 998, 999, 1000, 1001, MAX}) {
            boolean isAllowed = isBetween(reach, 80, 999);
            LinkerYard yard = new LinkerYard();
            Check.due("reach " + reach, isAllowed ? 999 : "throws IllegalArgumentException",
                    () -> yard.setReach(reach));
            Check.due("the reach behind it", isAllowed ? reach : 999, () -> yard.setReach(500));
        }
    }

    private static void reachBefore() {
        Check.sentence("8: Returns the reach before");
        LinkerYard yard = new LinkerYard();
        Check.due("the first time", 999, () -> yard.setReach(80));
        Check.due("the least", 80, () -> yard.setReach(80));
        Check.due("the same again", 80, () -> yard.setReach(999));
        Check.due("the greatest", 999, () -> yard.setReach(998));
    }
}
