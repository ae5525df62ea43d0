/** Promises 9 to 15: taking, resolving, living and folding, and what is asked of them. */
public final class LinkTest {
    private static final int[] BAD = {-1, Integer.MIN_VALUE, Integer.MAX_VALUE};

    private LinkTest() {
    }

    public static void main(String[] args) {
        refused();
        failures();
        takingByChain();
        takingByLowest();
        notTaken();
        takingByLocals();
        resolvingStrength();
        resolvingLocals();
        living();
        livingCommons();
        folding();
        notFolded();
        laterReferences();
        addressTaken();
        foldedTargets();
        Check.end();
    }

    /** A yard with objects, 'p' for a plain one and 'm' for a member. */
    private static LinkerYard objects(String kinds) {
        LinkerYard yard = new LinkerYard();
        for (int place = 0; place < kinds.length(); place++) {
            yard.addObject(kinds.charAt(place) == 'm');
        }
        return yard;
    }

    private static int code(LinkerYard yard, int object, int size) {
        return yard.addSection(object, true, size, 1, 0, false);
    }

    private static int data(LinkerYard yard, int object, int size) {
        return yard.addSection(object, false, size, 1, 0, false);
    }

    private static String fates(LinkerYard yard, int sections) {
        StringBuilder text = new StringBuilder();
        for (int section = 0; section < sections; section++) {
            text.append(yard.fate(section));
        }
        return text.toString();
    }

    private static String taken(LinkerYard yard, int objects) {
        StringBuilder text = new StringBuilder();
        for (int object = 0; object < objects; object++) {
            text.append(yard.isTaken(object) ? 't' : '.');
        }
        return text.toString();
    }

    private static void refused() {
        LinkerYard yard = objects("p");
        code(yard, 0, 4);
        yard.define(0, 0, 0, 's');
        yard.refer(0, 0, 1, 'a');
        Check.dueBadState("10: no link", () -> yard.isTaken(0));
        Check.dueBadState("11: no link", () -> yard.fate(0));
        Check.dueBadState("12: no link", () -> yard.address(0));
        Check.dueBadState("13: no link", () -> yard.addressOf(0));
        Check.dueBadState("14: no link", () -> yard.target(0));
        Check.dueBadState("15: no link", () -> yard.targetAnew(0));
        for (int round = 0; round < 2; round++) {
            for (int number : BAD) {
                Check.dueBadArgument("9: root " + number, () -> yard.link(number));
                Check.dueOutOfBounds("10: object " + number, () -> yard.isTaken(number));
                Check.dueOutOfBounds("11: section " + number, () -> yard.fate(number));
                Check.dueOutOfBounds("12: section " + number, () -> yard.address(number));
                Check.dueBadArgument("13: name " + number, () -> yard.addressOf(number));
                Check.dueOutOfBounds("14: reference " + number, () -> yard.target(number));
                Check.dueOutOfBounds("15: reference " + number, () -> yard.targetAnew(number));
            }
            Check.dueBadArgument("9: root 16", () -> yard.link(16));
            Check.dueOutOfBounds("10: object 1 of 1", () -> yard.isTaken(1));
            Check.dueOutOfBounds("11: section 1 of 1", () -> yard.fate(1));
            Check.dueOutOfBounds("12: section 1 of 1", () -> yard.address(1));
            Check.dueBadArgument("13: name 16", () -> yard.addressOf(16));
            Check.dueOutOfBounds("14: reference 1 of 1", () -> yard.target(1));
            Check.dueOutOfBounds("15: reference 1 of 1", () -> yard.targetAnew(1));
            yard.addCommon(0, 1 + round, 1);
            Check.due("9: it links", '-', () -> yard.link(1));
        }
        Check.dueNoElement("12: a section that does not live", () -> yard.address(0));
        Check.dueNoElement("13: a definition that does not live", () -> yard.addressOf(0));
        Check.dueNoElement("13: a common that does not live", () -> yard.addressOf(2));
        Check.dueNoElement("13: a name that stands for nothing", () -> yard.addressOf(3));
        Check.dueNoElement("14: a section that does not live", () -> yard.target(0));
        Check.dueNoElement("15: a section that does not live", () -> yard.targetAnew(0));
        Check.due("13: a common that lives", 1000, () -> yard.addressOf(1));
    }

    private static void failures() {
        Check.due("9: nothing at all", 'u', () -> new LinkerYard().link(15));
        LinkerYard yard = objects("pp");
        code(yard, 0, 20);
        code(yard, 1, 20);
        yard.define(0, 0, 0, 's');
        yard.define(0, 1, 0, 's');
        yard.setRooms(1, 999);
        Check.due("9: the room", 'r', () -> yard.link(0));
        Check.dueBadState("9: then there is no link", yard::codeEnd);
        yard.refer(0, 0, 5, 'a');
        Check.due("9: nothing to go to ahead of the room", 'u', () -> yard.link(0));
        yard.define(1, 1, 0, 's');
        Check.due("9: two strong ones ahead of both", 'd', () -> yard.link(0));
        Check.due("9: two strong ones that nobody wants", 'd', () -> yard.link(7));
        LinkerYard again = objects("p");
        code(again, 0, 1);
        again.define(0, 0, 0, 's');
        Check.due("9: it links", '-', () -> again.link(0));
        Check.due("9: and then fails", 'u', () -> again.link(1));
        Check.dueBadState("9: the link before is gone", again::codeEnd);
        LinkerYard same = objects("p");
        code(same, 0, 1);
        code(same, 0, 2);
        same.define(0, 0, 0, 's');
        same.define(1, 0, 0, 's');
        Check.due("9: two strong ones in one object", 'd', () -> same.link(0));
        LinkerYard apart = objects("pm");
        code(apart, 0, 1);
        code(apart, 1, 2);
        apart.define(0, 0, 0, 's');
        apart.define(1, 0, 0, 's');
        Check.due("9: a strong one in a member that is not taken", '-', () -> apart.link(0));
    }

    private static void takingByChain() {
        LinkerYard yard = objects("pmmmm");
        for (int object = 0; object < 5; object++) {
            code(yard, object, 4);
        }
        yard.define(0, 0, 0, 's');
        yard.refer(0, 0, 1, 'c');
        yard.define(3, 1, 0, 's');
        yard.refer(3, 0, 2, 'c');
        yard.addCommon(1, 2, 8);
        yard.define(2, 3, 0, 's');
        yard.refer(1, 0, 3, 'a');
        yard.refer(4, 0, 0, 'c');
        Check.due("9: a chain", '-', () -> yard.link(0));
        Check.due("10: the chain", "tttt.", () -> taken(yard, 5));
        Check.due("11: a section that nobody reaches", "lxxlx", () -> fates(yard, 5));
        Check.due("14: a common", -1, () -> yard.target(1));
        Check.due("15: a common", -1, () -> yard.targetAnew(1));
        Check.due("14: a section", 3, () -> yard.target(0));
        Check.due("15: a section", 3, () -> yard.targetAnew(0));
    }

    private static void takingByLowest() {
        LinkerYard yard = objects("pmmm");
        code(yard, 0, 4);
        code(yard, 2, 4);
        code(yard, 1, 4);
        code(yard, 3, 4);
        yard.define(0, 0, 0, 's');
        yard.refer(0, 0, 2, 'c');
        yard.refer(0, 1, 1, 'c');
        yard.define(1, 2, 0, 's');
        yard.define(2, 1, 0, 's');
        yard.define(2, 2, 1, 's');
        yard.define(3, 1, 0, 's');
        Check.due("9: the lowest member has both", '-', () -> yard.link(0));
        Check.due("10: the lowest member has both", "tt..", () -> taken(yard, 4));
        Check.due("14: goes to the member", 2, () -> yard.target(0));
        Check.due("13: at its offset", 5, () -> yard.addressOf(2));
        LinkerYard clash = objects("pmm");
        code(clash, 0, 4);
        code(clash, 1, 4);
        code(clash, 2, 4);
        clash.refer(0, 0, 2, 'c');
        clash.refer(0, 1, 1, 'c');
        clash.define(0, 0, 0, 's');
        clash.define(1, 1, 0, 's');
        clash.define(2, 1, 0, 's');
        clash.define(2, 2, 0, 's');
        Check.due("9: the second is taken for the other name", 'd', () -> clash.link(0));
    }

    private static void notTaken() {
        LinkerYard yard = objects("pm");
        code(yard, 0, 4);
        code(yard, 1, 4);
        yard.define(1, 0, 0, 'w');
        Check.due("9: no member for its weak definition", 'u', () -> yard.link(0));
        yard.define(1, 1, 0, 's');
        Check.due("9: the root takes a member", '-', () -> yard.link(1));
        Check.due("10: the root takes a member", "tt", () -> taken(yard, 2));
        Check.due("13: the weak one is there now", 0, () -> yard.addressOf(0));
        yard.define(0, 1, 0, 'w');
        Check.due("9: a weak one closes the name", '-', () -> yard.link(1));
        Check.due("10: a weak one closes the name", "t.", () -> taken(yard, 2));
        LinkerYard common = objects("pm");
        code(common, 1, 4);
        common.define(0, 1, 0, 's');
        common.addCommon(0, 1, 3);
        Check.due("9: a common closes the name", '-', () -> common.link(1));
        Check.due("10: a common closes the name", "t.", () -> taken(common, 2));
        LinkerYard dead = objects("pm");
        code(dead, 0, 4);
        code(dead, 0, 4);
        code(dead, 1, 4);
        dead.define(0, 0, 0, 's');
        dead.refer(1, 0, 1, 'c');
        dead.define(2, 1, 0, 's');
        Check.due("9: a section that does not live refers", '-', () -> dead.link(0));
        Check.due("10: it takes the member all the same", "tt", () -> taken(dead, 2));
        Check.due("11: what it takes does not live", "lxx", () -> fates(dead, 3));
    }

    private static void takingByLocals() {
        LinkerYard yard = objects("ppm");
        code(yard, 0, 4);
        code(yard, 1, 4);
        code(yard, 2, 4);
        yard.define(0, 0, 0, 's');
        yard.define(0, 1, 0, 'l');
        yard.refer(0, 0, 1, 'c');
        yard.define(2, 1, 0, 's');
        Check.due("9: a local one closes the name in its object", '-', () -> yard.link(0));
        Check.due("10: a local one closes the name in its object", "tt.", () -> taken(yard, 3));
        yard.refer(1, 0, 1, 'c');
        Check.due("9: another object refers too", '-', () -> yard.link(0));
        Check.due("10: then it is open", "ttt", () -> taken(yard, 3));
        Check.due("14: the local one still goes first", 0, () -> yard.target(0));
        LinkerYard root = objects("pm");
        code(root, 0, 4);
        code(root, 1, 4);
        root.define(0, 0, 0, 'l');
        Check.due("9: the root stands for no local one", 'u', () -> root.link(0));
        root.define(1, 0, 0, 's');
        Check.due("9: a local one does not close the root", '-', () -> root.link(0));
        Check.due("10: a local one does not close the root", "tt", () -> taken(root, 2));
        Check.due("11: the root is the strong one", "xl", () -> fates(root, 2));
    }

    private static void resolvingStrength() {
        LinkerYard yard = objects("ppp");
        code(yard, 0, 4);
        data(yard, 1, 4);
        data(yard, 2, 4);
        data(yard, 0, 4);
        yard.define(0, 0, 0, 's');
        yard.refer(0, 0, 1, 'a');
        yard.define(2, 1, 0, 'w');
        Check.due("9: a weak one", '-', () -> yard.link(0));
        Check.due("14: a weak one", 2, () -> yard.target(0));
        yard.define(1, 1, 2, 'w');
        Check.due("9: two weak ones", '-', () -> yard.link(0));
        Check.due("14: the lowest section, though told later", 1, () -> yard.target(0));
        Check.due("13: at its offset", 1002, () -> yard.addressOf(1));
        yard.addCommon(2, 1, 5);
        Check.due("9: a common", '-', () -> yard.link(0));
        Check.due("14: a common wins over weak ones", -1, () -> yard.target(0));
        Check.due("20: its size", 1005, yard::dataEnd);
        yard.addCommon(1, 1, 9);
        yard.addCommon(0, 1, 8);
        Check.due("9: three commons", '-', () -> yard.link(0));
        Check.due("20: the greatest", 1009, yard::dataEnd);
        yard.define(3, 1, 1, 's');
        Check.due("9: a strong one", '-', () -> yard.link(0));
        Check.due("14: it wins over commons", 3, () -> yard.target(0));
        Check.due("15: it wins over commons", 3, () -> yard.targetAnew(0));
        Check.due("13: it wins over commons", 1001, () -> yard.addressOf(1));
        Check.due("11: nothing else lives", "lxxl", () -> fates(yard, 4));
    }

    private static void resolvingLocals() {
        LinkerYard yard = objects("pp");
        code(yard, 0, 4);
        data(yard, 0, 4);
        data(yard, 0, 4);
        data(yard, 1, 4);
        code(yard, 1, 4);
        yard.define(0, 0, 0, 's');
        yard.refer(0, 0, 1, 'a');
        yard.refer(0, 1, 5, 'c');
        yard.define(4, 5, 0, 's');
        yard.refer(4, 0, 1, 'a');
        yard.define(2, 1, 2, 'l');
        yard.define(1, 1, 1, 'l');
        yard.define(3, 1, 3, 's');
        Check.due("9: locals", '-', () -> yard.link(0));
        Check.due("14: the local one of the lowest section", 1, () -> yard.target(0));
        Check.due("15: the local one of the lowest section", 1, () -> yard.targetAnew(0));
        Check.due("16: at its offset", 1001, () -> yard.valueOf(0));
        Check.due("14: from another object", 3, () -> yard.target(2));
        Check.due("13: the name stands for the strong one", 1007, () -> yard.addressOf(1));
        Check.due("11: the other local one does not live", "llxll", () -> fates(yard, 5));
        LinkerYard weak = objects("pp");
        code(weak, 0, 4);
        code(weak, 0, 4);
        code(weak, 1, 4);
        weak.define(0, 0, 0, 's');
        weak.refer(0, 0, 1, 'c');
        weak.define(1, 1, 0, 'w');
        weak.define(2, 1, 0, 's');
        weak.link(0);
        Check.due("14: a weak one in the object is no local one", 2, () -> weak.target(0));
    }

    private static void living() {
        LinkerYard yard = objects("pm");
        code(yard, 0, 4);
        yard.addSection(0, false, 4, 1, 0, true);
        code(yard, 0, 4);
        code(yard, 0, 6);
        yard.addSection(1, true, 7, 1, 0, true);
        code(yard, 0, 4);
        yard.define(0, 0, 0, 's');
        yard.refer(1, 0, 2, 'a');
        yard.define(2, 2, 0, 'l');
        yard.refer(2, 0, 3, 'c');
        yard.define(3, 3, 0, 'l');
        yard.refer(5, 0, 9, 'c');
        Check.due("9: a section that does not live may lack a goal", '-', () -> yard.link(0));
        Check.due("11: kept data make others live", "llllxx", () -> fates(yard, 6));
        Check.due("12: of code that lives", 8, () -> yard.address(3));
        Check.dueNoElement("12: of a member that is not taken", () -> yard.address(4));
        yard.refer(3, 0, 9, 'a');
        Check.due("9: one that lives may not", 'u', () -> yard.link(0));
        yard.addCommon(1, 9, 4);
        Check.due("9: the member has it", '-', () -> yard.link(0));
        Check.due("11: a kept section of it lives", "lllllx", () -> fates(yard, 6));
        LinkerYard loop = objects("p");
        code(loop, 0, 4);
        code(loop, 0, 5);
        code(loop, 0, 6);
        loop.define(0, 0, 0, 's');
        loop.define(1, 1, 0, 's');
        loop.define(2, 2, 0, 's');
        loop.refer(1, 0, 2, 'c');
        loop.refer(2, 0, 1, 'c');
        Check.due("9: two that reach each other", '-', () -> loop.link(0));
        Check.due("11: nobody else reaches them", "lxx", () -> fates(loop, 3));
        Check.due("9: with one as the root", '-', () -> loop.link(2));
        Check.due("11: with one as the root", "xll", () -> fates(loop, 3));
    }

    private static void livingCommons() {
        LinkerYard yard = objects("pp");
        code(yard, 0, 4);
        yard.define(0, 0, 0, 's');
        yard.addCommon(1, 7, 3);
        yard.addCommon(0, 5, 2);
        yard.addCommon(0, 7, 3);
        yard.addCommon(0, 2, 1);
        yard.refer(0, 0, 7, 'a');
        yard.refer(0, 1, 2, 'a');
        Check.due("9: commons", '-', () -> yard.link(0));
        Check.due("13: by rising names", 1000, () -> yard.addressOf(2));
        Check.due("13: with an alignment of 4", 1004, () -> yard.addressOf(7));
        Check.dueNoElement("13: nobody reaches it", () -> yard.addressOf(5));
        Check.due("20: behind the last common", 1007, yard::dataEnd);
        Check.due("9: a common as the root", '-', () -> yard.link(5));
        Check.due("20: it alone lives", 1002, yard::dataEnd);
    }

    /** Sections 1 and 2 are as the two calls ask; they are called from section 0 and call section 3. */
    private static LinkerYard twins(int size, int alignment, int content, boolean isCode) {
        LinkerYard yard = objects("pp");
        code(yard, 0, 8);
        yard.addSection(0, true, 8, 4, 7, false);
        yard.addSection(1, isCode, size, alignment, content, false);
        yard.addSection(0, true, 10, 2, 9, false);
        yard.define(0, 0, 0, 's');
        yard.define(1, 1, 2, 's');
        yard.define(2, 2, 5, 's');
        yard.define(3, 3, 0, 's');
        yard.define(3, 4, 0, 's');
        yard.refer(0, 0, 1, 'c');
        yard.refer(0, 1, 2, 'c');
        return yard;
    }

    private static String twinFates(LinkerYard yard) {
        return yard.link(0) + fates(yard, 4);
    }

    private static void folding() {
        Check.due("11: alike", "-llfx", () -> twinFates(twins(8, 4, 7, true)));
        LinkerYard calls = twins(8, 4, 7, true);
        calls.refer(1, 5, 4, 'a');
        calls.refer(1, 3, 3, 'c');
        calls.refer(2, 3, 3, 'c');
        calls.refer(2, 5, 4, 'a');
        Check.due("11: alike in references told in another order", "-llfl", () -> twinFates(calls));
        Check.due("12: of one that is folded", 8, () -> calls.address(2));
        Check.due("13: of a definition in it", 13, () -> calls.addressOf(2));
        Check.due("14: what goes to it", 1, () -> calls.target(1));
        Check.due("15: what goes to it", 1, () -> calls.targetAnew(1));
        Check.due("12: behind it", 16, () -> calls.address(3));
        Check.due("14: of a reference of it", 3, () -> calls.target(4));
        LinkerYard kept = objects("p");
        kept.addSection(0, true, 4, 1, 1, true);
        kept.addSection(0, true, 4, 1, 1, true);
        kept.addSection(0, true, 4, 1, 1, true);
        kept.addSection(0, true, 4, 1, 1, false);
        kept.define(2, 0, 3, 's');
        kept.define(3, 1, 3, 's');
        Check.due("9: kept ones", '-', () -> kept.link(0));
        Check.due("11: all into the lowest, the root too", "lffx", () -> fates(kept, 4));
        Check.due("13: the root", 3, () -> kept.addressOf(0));
        Check.due("19: one is laid", 4, kept::codeEnd);
        LinkerYard commons = twins(8, 4, 7, true);
        commons.addCommon(0, 6, 4);
        commons.refer(1, 0, 6, 'a');
        commons.refer(2, 0, 6, 'a');
        Check.due("11: the same common", "-llfx", () -> twinFates(commons));
    }

    private static void notFolded() {
        Check.due("11: another size", "-lllx", () -> twinFates(twins(9, 4, 7, true)));
        Check.due("11: another alignment", "-lllx", () -> twinFates(twins(8, 2, 7, true)));
        Check.due("11: another content", "-lllx", () -> twinFates(twins(8, 4, 8, true)));
        Check.due("11: data", "-lllx", () -> twinFates(twins(8, 4, 7, false)));
        LinkerYard more = twins(8, 4, 7, true);
        more.refer(2, 3, 3, 'c');
        Check.due("11: more references above", "-llll", () -> twinFates(more));
        LinkerYard less = twins(8, 4, 7, true);
        less.refer(1, 3, 3, 'c');
        Check.due("11: more references below", "-llll", () -> twinFates(less));
        LinkerYard offsets = twins(8, 4, 7, true);
        offsets.refer(1, 3, 3, 'c');
        offsets.refer(2, 4, 3, 'c');
        Check.due("11: other offsets", "-llll", () -> twinFates(offsets));
        LinkerYard kinds = twins(8, 4, 7, true);
        kinds.refer(1, 3, 3, 'c');
        kinds.refer(2, 3, 3, 'a');
        Check.due("11: other kinds", "-llll", () -> twinFates(kinds));
        LinkerYard names = twins(8, 4, 7, true);
        names.refer(1, 3, 3, 'c');
        names.refer(2, 3, 4, 'c');
        Check.due("11: two definitions at one offset", "-llll", () -> twinFates(names));
        LinkerYard locals = twins(8, 4, 7, true);
        locals.define(3, 6, 0, 'l');
        locals.addCommon(1, 6, 4);
        locals.refer(1, 3, 6, 'c');
        locals.refer(2, 3, 6, 'c');
        Check.due("11: one name that goes two ways", "-llll", () -> twinFates(locals));
        LinkerYard selves = twins(8, 4, 7, true);
        selves.refer(1, 3, 1, 'c');
        selves.refer(2, 3, 2, 'c');
        Check.due("11: each calls itself", "-lllx", () -> twinFates(selves));
        LinkerYard data = objects("p");
        data.addSection(0, false, 4, 1, 1, true);
        data.addSection(0, false, 4, 1, 1, true);
        data.define(0, 0, 0, 's');
        data.link(0);
        Check.due("11: data that are alike", "ll", () -> fates(data, 2));
    }

    /** Twins with up to four references, told as pairs of an offset and a name, or as pairs and an 'a'. */
    private static LinkerYard callingTwins(String lower, String higher) {
        LinkerYard yard = twins(8, 4, 7, true);
        String[] texts = {lower, higher};
        for (int twin = 0; twin < 2; twin++) {
            for (String told : texts[twin].split(" ")) {
                char kind = told.length() > 2 ? 'a' : 'c';
                yard.refer(1 + twin, told.charAt(0) - '0', told.charAt(1) - '0', kind);
            }
        }
        return yard;
    }

    /** What makes two sections unlike may stand in any of their references. */
    private static void laterReferences() {
        Check.due("11: four references", "-llfl", () -> twinFates(callingTwins("03 24 43 63", "63 43 24 03")));
        for (int place = 0; place < 4; place++) {
            String[] names = {"03", "24", "43", "63"};
            names[place] = names[place].charAt(0) + (place == 1 ? "3" : "4");
            String otherName = String.join(" ", names);
            names[place] = "03 24 43 63".substring(3 * place, 3 * place + 2) + "a";
            String otherKind = String.join(" ", names);
            names[place] = (char) ('1' + 2 * place) + "03 24 43 63".substring(3 * place + 1, 3 * place + 2);
            String otherOffset = String.join(" ", names);
            String fewer = "03 24 43 63 ".substring(0, 3 * place) + "03 24 43 63 ".substring(3 * place + 3);
            for (String other : new String[] {otherName, otherKind, otherOffset, fewer.trim()}) {
                Check.due("11: four references and " + other, "-llll",
                        () -> twinFates(callingTwins("03 24 43 63", other)));
                Check.due("11: " + other + " and four references", "-llll",
                        () -> twinFates(callingTwins(other, "03 24 43 63")));
            }
        }
    }

    private static void addressTaken() {
        LinkerYard first = objects("p");
        first.addSection(0, true, 4, 1, 1, true);
        first.addSection(0, true, 4, 1, 1, true);
        first.addSection(0, false, 4, 1, 1, true);
        first.define(1, 0, 2, 's');
        first.refer(2, 0, 0, 'a');
        first.link(0);
        Check.due("11: asked for by the first of all references", "lll", () -> fates(first, 3));
        LinkerYard low = twins(8, 4, 7, true);
        low.refer(0, 2, 1, 'a');
        Check.due("11: the address of the lower one is asked for", "-lllx", () -> twinFates(low));
        LinkerYard high = twins(8, 4, 7, true);
        high.refer(0, 2, 2, 'a');
        Check.due("11: the address of the higher one is asked for", "-lllx", () -> twinFates(high));
        LinkerYard dead = twins(8, 4, 7, true);
        dead.refer(3, 2, 2, 'a');
        Check.due("11: asked for by one that does not live", "-llfx", () -> twinFates(dead));
        LinkerYard folded = objects("p");
        code(folded, 0, 8);
        for (int section = 1; section < 5; section++) {
            folded.addSection(0, true, 8, 1, section < 3 ? 1 : 2, section == 2 || section == 4);
        }
        folded.define(0, 0, 0, 's');
        folded.define(1, 1, 0, 's');
        folded.define(3, 3, 0, 's');
        folded.refer(0, 0, 1, 'c');
        folded.refer(1, 0, 3, 'a');
        folded.refer(2, 0, 3, 'a');
        Check.due("9: asked for by one that is folded", '-', () -> folded.link(0));
        Check.due("11: asked for by one that is folded", "llfll", () -> fates(folded, 5));
    }

    /** Callers of folded twins are not alike: their goals are still two definitions. */
    private static void foldedTargets() {
        LinkerYard yard = objects("p");
        code(yard, 0, 4);
        yard.addSection(0, true, 4, 1, 1, true);
        yard.addSection(0, true, 4, 1, 1, true);
        yard.addSection(0, true, 4, 1, 2, true);
        yard.addSection(0, true, 4, 1, 2, true);
        yard.define(0, 0, 0, 's');
        yard.define(1, 1, 0, 's');
        yard.define(2, 2, 0, 's');
        yard.refer(3, 0, 1, 'c');
        yard.refer(4, 0, 2, 'c');
        Check.due("9: callers of twins", '-', () -> yard.link(0));
        Check.due("11: callers of twins", "llfll", () -> fates(yard, 5));
        Check.due("14: both go to the lower one", 1, () -> yard.target(1));
        Check.due("16: with a value by the map", -8, () -> yard.valueOf(1));
    }
}
