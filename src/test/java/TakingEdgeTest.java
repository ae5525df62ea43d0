/** The sentences about taking, resolving and links that name a boundary: their terms, promises 9 and 10. */
public final class TakingEdgeTest {
    private static final int MIN = Integer.MIN_VALUE;
    private static final int MAX = Integer.MAX_VALUE;

    private TakingEdgeTest() {
    }

    public static void main(String[] args) {
        plainObjects();
        openByReference();
        openByTakenOnly();
        openByRoot();
        closedByStrong();
        closedByWeak();
        closedByCommon();
        closedByTakenOnly();
        closedByLocal();
        wanted();
        lowestMember();
        firstAndLastTold();
        asLongAs();
        takenAnew();
        localFirst();
        localOfLowestSection();
        strongFirst();
        greatestCommon();
        lowestWeak();
        twoStrong();
        roots();
        firstReason();
        noLinkThen();
        takenObjects();
        Check.end();
    }

    private static void dueTaken(String what, LinkerYard yard, int root, String taken) {
        Check.due("link: " + what, '-', () -> yard.link(root));
        Check.due("taken: " + what, taken, () -> Build.taken(yard, taken.length()));
    }

    private static void plainObjects() {
        Check.sentence("A link takes all plain objects");
        for (String kinds : new String[] {"p", "pp", "pppppppppp", "mmmmmmmmmp", "pmmmmmmmmm", "mpmpmpmpmp"}) {
            LinkerYard yard = Build.objects(kinds);
            yard.addCommon(kinds.indexOf('p'), 0, 1);
            dueTaken(kinds, yard, 0, kinds.replace('p', 't').replace('m', '.'));
        }
        LinkerYard members = Build.objects("mmm");
        members.addCommon(1, 0, 1);
        dueTaken("no plain ones", members, 0, ".t.");
        Check.due("no objects", 'u', () -> new LinkerYard().link(0));
    }

    /** Object 0 is plain, object 1 a member that has a strong definition of a name. */
    private static LinkerYard wanting(int name) {
        LinkerYard yard = Build.objects("pm");
        Build.code(yard, 0, 4, 1);
        Build.code(yard, 1, 4, 2);
        yard.define(0, 7, 0, 's');
        yard.define(1, name, 0, 's');
        return yard;
    }

    private static void openByReference() {
        Check.sentence("A name is open if a section of an object that is taken has a reference to it");
        for (int name : new int[] {0, 15}) {
            for (char kind : new char[] {'c', 'a'}) {
                dueTaken("nobody refers", wanting(name), 7, "t.");
                LinkerYard living = wanting(name);
                living.refer(0, 3, name, kind);
                dueTaken("a living section refers", living, 7, "tt");
                LinkerYard dead = wanting(name);
                dead.refer(Build.data(dead, 0, 1), 0, name, kind);
                dueTaken("a section that does not live refers", dead, 7, "tt");
            }
        }
    }

    private static void openByTakenOnly() {
        Check.sentence("a section of an object that is taken: not of a member that is not taken");
        LinkerYard yard = Build.objects("pmm");
        Build.code(yard, 0, 4, 1);
        Build.code(yard, 1, 4, 2);
        Build.code(yard, 2, 4, 3);
        yard.define(0, 7, 0, 's');
        yard.define(1, 1, 0, 's');
        yard.define(2, 2, 0, 's');
        yard.refer(1, 0, 2, 'c');
        yard.refer(2, 0, 1, 'c');
        dueTaken("two members refer to each other", yard, 7, "t..");
        yard.refer(0, 0, 2, 'a');
        dueTaken("one of them is taken, and then the other", yard, 7, "ttt");
    }

    private static void openByRoot() {
        Check.sentence("or it is the root of the link");
        for (int name : new int[] {0, 15}) {
            dueTaken("a strong one", wanting(name), name, "tt");
            LinkerYard common = Build.objects("pmm");
            common.addCommon(2, name, 1);
            dueTaken("a common", common, name, "t.t");
        }
        LinkerYard none = Build.objects("mm");
        Build.code(none, 0, 1, 0);
        none.define(0, 1, 0, 's');
        Check.due("a root that nobody has", 'u', () -> none.link(0));
    }

    private static void closedByStrong() {
        Check.sentence("and no object that is taken has a strong definition of it");
        for (int root : new int[] {7, 3}) {
            LinkerYard yard = wanting(3);
            yard.refer(0, 0, 3, 'c');
            yard.addCommon(1, 3, 9);
            yard.define(Build.data(yard, 0, 1), 3, 0, 's');
            dueTaken("with the root " + root, yard, root, "t.");
        }
    }

    private static void closedByWeak() {
        Check.sentence("and no object that is taken has a weak definition of it");
        for (int root : new int[] {7, 3}) {
            LinkerYard yard = wanting(3);
            yard.refer(0, 0, 3, 'c');
            yard.define(Build.data(yard, 0, 1), 3, 0, 'w');
            dueTaken("with the root " + root, yard, root, "t.");
        }
    }

    private static void closedByCommon() {
        Check.sentence("or a common for it");
        for (int root : new int[] {7, 3}) {
            LinkerYard yard = wanting(3);
            yard.refer(0, 0, 3, 'c');
            yard.addCommon(0, 3, 1);
            dueTaken("with the root " + root, yard, root, "t.");
        }
        LinkerYard other = wanting(3);
        other.refer(0, 0, 3, 'c');
        other.addCommon(0, 4, 1);
        dueTaken("a common for another name", other, 7, "tt");
    }

    private static void closedByTakenOnly() {
        Check.sentence("no object that is taken has one: one that is not taken does not count");
        LinkerYard yard = Build.objects("pmmm");
        for (int object = 0; object < 4; object++) {
            Build.code(yard, object, 4, object);
        }
        yard.define(0, 7, 0, 's');
        yard.refer(0, 0, 3, 'c');
        yard.define(1, 3, 0, 'w');
        yard.define(2, 3, 0, 'l');
        yard.define(3, 3, 0, 's');
        dueTaken("a weak and a local one in members", yard, 7, "t..t");
    }

    private static void closedByLocal() {
        Check.sentence("nor a local one in the object of that reference");
        LinkerYard same = wanting(3);
        same.refer(0, 0, 3, 'c');
        same.define(Build.data(same, 0, 1), 3, 0, 'l');
        dueTaken("in another section of the object", same, 7, "t.");
        LinkerYard own = wanting(3);
        own.refer(0, 0, 3, 'c');
        own.define(0, 3, 3, 'l');
        dueTaken("in the section itself", own, 7, "t.");
        dueTaken("not for the root", own, 3, "tt");
        LinkerYard other = wanting(3);
        other.addObject(false);
        other.refer(0, 0, 3, 'c');
        other.define(Build.code(other, 2, 1, 0), 3, 0, 'l');
        dueTaken("in another object", other, 7, "ttt");
        LinkerYard both = wanting(3);
        both.addObject(false);
        both.refer(Build.code(both, 2, 1, 0), 0, 3, 'a');
        both.refer(0, 0, 3, 'c');
        both.define(0, 3, 0, 'l');
        dueTaken("in one of two objects that refer", both, 7, "ttt");
        LinkerYard name = wanting(3);
        name.refer(0, 0, 3, 'c');
        name.define(0, 4, 0, 'l');
        dueTaken("of another name", name, 7, "tt");
    }

    private static void wanted() {
        Check.sentence("a member that is not taken and has a strong definition of an open name or a common for one");
        for (char strength : new char[] {'s', 'w', 'l'}) {
            LinkerYard yard = Build.objects("pm");
            Build.code(yard, 0, 4, 1);
            Build.data(yard, 1, 4);
            Build.data(yard, 1, 4);
            yard.define(0, 7, 0, 's');
            yard.refer(Build.data(yard, 0, 1), 0, 3, 'a');
            yard.define(2, 3, 0, strength);
            dueTaken("one with the strength " + strength, yard, 7, strength == 's' ? "tt" : "t.");
            yard.addCommon(1, 3, 1);
            dueTaken("a common beside " + strength, yard, 7, "tt");
        }
        LinkerYard other = wanting(3);
        other.refer(0, 0, 4, 'c');
        Check.due("a strong one of another name", 'u', () -> other.link(7));
        other.addCommon(1, 5, 1);
        Check.due("a common for another name", 'u', () -> other.link(7));
    }

    private static void lowestMember() {
        Check.sentence("the one of these with the lowest number is taken");
        for (int lowest = 1; lowest < 10; lowest++) {
            LinkerYard yard = Build.objects("pmmmmmmmmm");
            Build.code(yard, 0, 4, 1);
            yard.define(0, 7, 0, 's');
            yard.refer(0, 0, 3, 'c');
            for (int object = 9; object >= lowest; object--) {
                yard.define(Build.code(yard, object, 1, object), 3, 0, 's');
            }
            String taken = "t........." .substring(0, lowest) + "t" + ".........".substring(lowest);
            dueTaken("lowest is " + lowest + ", its section is the last", yard, 7, taken);
        }
        for (boolean isCommonLower : new boolean[] {true, false}) {
            LinkerYard yard = Build.objects("pmm");
            Build.code(yard, 0, 4, 1);
            yard.define(0, 7, 0, 's');
            yard.refer(0, 0, 3, 'c');
            yard.addCommon(isCommonLower ? 1 : 2, 3, 1);
            yard.define(Build.code(yard, isCommonLower ? 2 : 1, 1, 1), 3, 0, 's');
            dueTaken("a common and a strong one, the common lower: " + isCommonLower, yard, 7, "tt.");
        }
    }

    /** The first or the last of all that are told counts as any other does. */
    private static void firstAndLastTold() {
        Check.sentence("a strong or a weak definition of it or a common for it: the first and the last told");
        for (int place : new int[] {0, 39}) {
            for (char strength : new char[] {'s', 'w', 'l'}) {
                LinkerYard closed = Build.objects("pm");
                fill(closed, place, 0, 3, strength);
                closed.addCommon(1, 3, 1);
                closed.addCommon(0, 7, 1);
                closed.refer(0, 0, 3, 'c');
                dueTaken("definition " + place + " closes it by " + strength, closed, 7, "t.");
                LinkerYard open = Build.objects("pm");
                fill(open, place, 1, 3, strength);
                open.addCommon(0, 7, 1);
                open.refer(0, 0, 3, 'c');
                dueTaken("definition " + place + " by " + strength, open, 7, strength == 's' ? "tt" : "t.");
            }
        }
        for (int place : new int[] {0, 159}) {
            LinkerYard closed = Build.objects("pppppppppm");
            Build.code(closed, 0, 1, 0);
            closed.refer(0, 0, 3, 'a');
            closed.define(Build.code(closed, 9, 1, 0), 3, 0, 's');
            fillCommons(closed, place, 8, 3);
            dueTaken("common " + place + " closes it", closed, 7, "ttttttttt.");
            LinkerYard wanted = Build.objects("pppppppppm");
            Build.code(wanted, 0, 1, 0);
            wanted.refer(0, 0, 3, 'a');
            fillCommons(wanted, place, 9, 3);
            dueTaken("common " + place + " is wanted", wanted, 7, "tttttttttt");
        }
    }

    /** Sections 0 to 2 of object 0, 3 to 5 of object 1, with 40 definitions; the one at a place is given. */
    private static void fill(LinkerYard yard, int place, int object, int name, char strength) {
        for (int section = 0; section < 6; section++) {
            Build.code(yard, section / 3, 1, section);
        }
        for (int number = 0; number < 40; number++) {
            if (number == place) {
                yard.define(3 * object + 2, name, 0, strength);
            } else {
                yard.define(number / 8, 8 + number % 8, 0, 'l');
            }
        }
    }

    /** As many commons as there may be but those for the name, of which there is one, told at a place. */
    private static void fillCommons(LinkerYard yard, int place, int object, int name) {
        if (place == 0) {
            yard.addCommon(object, name, 1);
        }
        for (int number = 0; number < 160; number++) {
            if (number % 16 != name) {
                yard.addCommon(number / 16, number % 16, 1);
            }
        }
        if (place > 0) {
            yard.addCommon(object, name, 1);
        }
    }

    /** Object 0 needs the first of a row of members, each of which needs the next. */
    private static LinkerYard chain(int... members) {
        LinkerYard yard = Build.objects("pmmmmmmmmm");
        Build.code(yard, 0, 4, 1);
        yard.define(0, 0, 0, 's');
        int last = 0;
        for (int member : members) {
            yard.refer(last, 0, member, 'c');
            last = Build.code(yard, member, 4, member);
            yard.define(last, member, 0, 's');
        }
        return yard;
    }

    private static void asLongAs() {
        Check.sentence("As long as there is a member");
        dueTaken("all by rising numbers", chain(1, 2, 3, 4, 5, 6, 7, 8, 9), 0, "tttttttttt");
        dueTaken("all by falling numbers", chain(9, 8, 7, 6, 5, 4, 3, 2, 1), 0, "tttttttttt");
        dueTaken("some of them", chain(9, 1, 5, 4), 0, "tt..tt...t");
        dueTaken("none of them", chain(), 0, "t.........");
        LinkerYard members = Build.objects("mmmmmmmmmm");
        for (int object = 9; object >= 0; object--) {
            members.define(Build.code(members, object, 1, object), object, 0, 's');
            if (object > 0) {
                members.refer(9 - object, 0, object - 1, 'c');
            }
        }
        dueTaken("ten members by falling numbers, and no plain one", members, 9, "tttttttttt");
        dueTaken("one of the ten", members, 0, "t.........");
        LinkerYard again = chain(5);
        again.addCommon(2, 1, 4);
        again.refer(1, 1, 1, 'a');
        again.addCommon(6, 1, 9);
        dueTaken("the next is sought from the lowest on", again, 0, "t.t..t....");
        LinkerYard closed = chain(2);
        closed.refer(0, 1, 9, 'c');
        closed.define(1, 9, 0, 's');
        closed.define(Build.code(closed, 9, 1, 1), 9, 0, 's');
        dueTaken("the first one closes a name that was open", closed, 0, "t.t.......");
        LinkerYard wins = chain(3);
        wins.refer(0, 1, 9, 'c');
        wins.define(Build.code(wins, 2, 1, 1), 9, 0, 's');
        wins.define(1, 9, 0, 's');
        Check.due("the lowest of all comes first, whatever name is open", 'd', () -> wins.link(0));
    }

    private static void takenAnew() {
        Check.sentence("a link takes anew");
        LinkerYard yard = Build.objects("mm");
        yard.addCommon(0, 0, 1);
        yard.addCommon(1, 15, 1);
        dueTaken("by the first root", yard, 0, "t.");
        dueTaken("by the second root", yard, 15, ".t");
        Check.due("by a root that nobody has", 'u', () -> yard.link(7));
        dueTaken("by the first root again", yard, 0, "t.");
    }

    private static void localFirst() {
        Check.sentence("A reference goes to a local definition of its name in its own object, if there is one");
        for (String others : new String[] {"", "s", "w", "k", "swk"}) {
            LinkerYard yard = Build.objects("pp");
            Build.code(yard, 0, 4, 1);
            yard.define(0, 7, 0, 's');
            yard.refer(0, 0, 3, 'c');
            if (others.contains("s")) {
                yard.define(Build.code(yard, 0, 4, 2), 3, 0, 's');
            }
            if (others.contains("w")) {
                yard.define(Build.code(yard, 0, 4, 3), 3, 0, 'w');
            }
            if (others.contains("k")) {
                yard.addCommon(0, 3, 64);
            }
            int local = Build.code(yard, 0, 4, 4);
            yard.define(local, 3, 2, 'l');
            Check.due("link, beside " + others, '-', () -> yard.link(7));
            Check.due("target, beside " + others, local, () -> yard.target(0));
            Check.due("the same anew, beside " + others, local, () -> yard.targetAnew(0));
        }
        LinkerYard apart = Build.objects("pp");
        Build.code(apart, 0, 4, 1);
        apart.define(0, 7, 0, 's');
        apart.refer(0, 0, 3, 'c');
        apart.define(Build.code(apart, 1, 4, 4), 3, 0, 'l');
        Check.due("a local one of another object", 'u', () -> apart.link(7));
        apart.define(0, 3, 1, 'l');
        Check.due("one in its own section", '-', () -> apart.link(7));
        Check.due("target in its own section", 0, () -> apart.target(0));
    }

    private static void localOfLowestSection() {
        Check.sentence("of several local ones that with the lowest section");
        for (boolean isRising : new boolean[] {true, false}) {
            LinkerYard yard = Build.objects("pp");
            for (int section = 0; section < 24; section++) {
                yard.addSection(section < 2 ? 1 : 0, section < 3, 1, 1, section, false);
            }
            yard.define(2, 7, 0, 's');
            yard.refer(2, 0, 3, 'c');
            for (int number = 0; number < 24; number++) {
                int section = isRising ? number : 23 - number;
                if (section != 2 && section != 3) {
                    yard.define(section, 3, 0, 'l');
                }
            }
            Check.due("link, rising: " + isRising, '-', () -> yard.link(7));
            Check.due("target, rising: " + isRising, 4, () -> yard.target(0));
            Check.due("the same anew, rising: " + isRising, 4, () -> yard.targetAnew(0));
        }
    }

    private static void strongFirst() {
        Check.sentence("a name stands for its strong definition in an object that is taken");
        for (int place = 1; place < 4; place++) {
            LinkerYard yard = Build.objects("pp");
            for (int section = 0; section < 4; section++) {
                Build.data(yard, section % 2, 4);
            }
            yard.refer(0, 0, 3, 'a');
            yard.define(0, 7, 0, 's');
            for (int section = 1; section < 4; section++) {
                yard.define(section, 3, 0, section == place ? 's' : 'w');
            }
            yard.addCommon(0, 3, 64);
            yard.addCommon(1, 3, 64);
            Check.due("link, with it in section " + place, '-', () -> yard.link(7));
            Check.due("target, with it in section " + place, place, () -> yard.target(0));
            Check.due("the same anew", place, () -> yard.targetAnew(0));
        }
        LinkerYard member = wanting(3);
        member.refer(0, 0, 3, 'c');
        member.define(0, 3, 1, 'w');
        member.link(7);
        Check.due("one in a member that is not taken", 0, () -> member.target(0));
        Check.due("the same anew", 0, () -> member.targetAnew(0));
    }

    private static void greatestCommon() {
        Check.sentence("or else the greatest common for it in one that is taken");
        int[][] sizes = {{1, 2, 3}, {3, 2, 1}, {2, 3, 1}, {64, 63, 62}, {62, 63, 64}, {7, 7, 6}, {6, 7, 7}, {7, 7, 7}};
        int[][] orders = {{0, 1, 2}, {2, 1, 0}, {1, 2, 0}};
        for (int[] row : sizes) {
            for (int[] order : orders) {
                LinkerYard yard = Build.objects("pppm");
                yard.addCommon(3, 3, 64);
                for (int object : order) {
                    yard.addCommon(object, 3, row[object]);
                }
                int greatest = Math.max(row[0], Math.max(row[1], row[2]));
                yard.define(Build.data(yard, 0, 1), 3, 0, 'w');
                Check.due("link, greatest is " + greatest, '-', () -> yard.link(3));
                Check.due("where it ends", 1000 + greatest, yard::dataEnd);
                Check.due("where it begins", 1000, () -> yard.addressOf(3));
            }
        }
    }

    private static void lowestWeak() {
        Check.sentence("or else the weak definition in one that is taken with the lowest section");
        for (boolean isRising : new boolean[] {true, false}) {
            LinkerYard yard = Build.objects("pm");
            for (int section = 0; section < 24; section++) {
                Build.data(yard, section < 2 ? 1 : 0, 1);
            }
            for (int number = 0; number < 24; number++) {
                int section = isRising ? number : 23 - number;
                if (section != 3) {
                    yard.define(section, 3, 0, section == 2 ? 'l' : 'w');
                }
            }
            Check.due("link, rising: " + isRising, '-', () -> yard.link(3));
            Check.due("only section 4 lives, rising: " + isRising, "xxxxlx", () -> Build.fates(yard, 6));
        }
    }

    private static void twoStrong() {
        Check.sentence("If two sections of objects that are taken define a name strongly, the link fails, 'd'");
        for (int name : new int[] {0, 15}) {
            for (char first : new char[] {'s', 'w', 'l'}) {
                for (char second : new char[] {'s', 'w', 'l'}) {
                    LinkerYard yard = Build.objects("ppm");
                    yard.addCommon(0, 7, 1);
                    for (int section = 0; section < 24; section++) {
                        Build.data(yard, section % 2, 1);
                    }
                    yard.define(0, name, 0, first);
                    yard.define(23, name, 0, second);
                    char due = first == 's' && second == 's' ? 'd' : '-';
                    Check.due(first + " and " + second + " of name " + name, due, () -> yard.link(7));
                }
            }
            LinkerYard same = Build.objects("p");
            same.addCommon(0, 7, 1);
            Build.data(same, 0, 1);
            Build.data(same, 0, 1);
            same.define(0, name, 0, 's');
            Check.due("one alone", '-', () -> same.link(7));
            same.define(1, 15 - name, 0, 's');
            Check.due("two names", '-', () -> same.link(7));
            same.define(1, name, 0, 's');
            Check.due("two sections of one object", 'd', () -> same.link(7));
        }
        LinkerYard member = wanting(3);
        member.define(0, 3, 1, 's');
        Check.due("one is in a member that is not taken", '-', () -> member.link(7));
        member.define(1, 2, 0, 's');
        member.refer(0, 0, 2, 'c');
        Check.due("the member is taken for another name", 'd', () -> member.link(7));
    }

    private static void roots() {
        Check.sentence("9: the name that is the root, 0 to 15");
        for (int root : new int[] {MIN, -16, -1, 0, 1, 14, 15, 16, 17, 32, MAX}) {
            LinkerYard yard = Build.objects("p");
            for (int name = 0; name < 16; name++) {
                yard.addCommon(0, name, 1 + name);
            }
            boolean isName = root >= 0 && root < 16;
            Check.due("root " + root, isName ? '-' : "throws IllegalArgumentException", () -> yard.link(root));
            if (isName) {
                Check.due("its size " + root, 1001 + root, yard::dataEnd);
            } else {
                Check.dueBadState("then there is no link", yard::dataEnd);
            }
        }
    }

    /** A link that fails for the reasons that are named. */
    private static LinkerYard failing(String reasons) {
        LinkerYard yard = Build.objects("p");
        yard.setRooms(1, 999);
        Build.keptCode(yard, 0, reasons.contains("r") ? 2 : 1, 1);
        Build.data(yard, 0, 1);
        yard.define(0, 0, 0, 's');
        yard.define(0, 1, 0, 's');
        if (reasons.contains("d")) {
            yard.define(1, 1, 0, 's');
        }
        if (reasons.contains("u")) {
            yard.refer(0, 0, 9, 'a');
        }
        return yard;
    }

    private static void firstReason() {
        Check.sentence("9: why the link fails, the first of 'd', 'u' and 'r' that applies");
        for (String reasons : new String[] {"d", "u", "r", "du", "dr", "ur", "dur"}) {
            Check.due("for " + reasons, reasons.charAt(0), () -> failing(reasons).link(0));
        }
        Check.due("for none", '-', () -> failing("").link(0));
        Check.due("'d' ahead of a root that nobody has", 'd', () -> failing("dr").link(9));
        Check.due("a root that nobody has ahead of 'r'", 'u', () -> failing("r").link(9));
    }

    private static void noLinkThen() {
        Check.sentence("9: then there is no link");
        for (String reason : new String[] {"d", "u", "r"}) {
            LinkerYard yard = failing(reason);
            yard.link(0);
            Check.dueBadState("whether an object is taken, for " + reason, () -> yard.isTaken(0));
            Check.dueBadState("a fate, for " + reason, () -> yard.fate(0));
            Check.dueBadState("an address, for " + reason, () -> yard.address(0));
            Check.dueBadState("the address of a name, for " + reason, () -> yard.addressOf(0));
            Check.dueBadState("islands, for " + reason, yard::islands);
            Check.dueBadState("the code, for " + reason, yard::codeEnd);
            Check.dueBadState("the data, for " + reason, yard::dataEnd);
            Check.dueBadState("the sum, for " + reason, yard::checksum);
            Check.dueBadState("a run, for " + reason, yard::run);
            Check.dueBadState("a plain run, for " + reason, yard::runPlain);
            Check.dueBadState("steps, for " + reason, yard::steps);
            Check.dueBadState("the share, for " + reason, yard::laidShare);
            Check.dueBadState("the mean, for " + reason, yard::meanSize);
            Check.dueBadState("whether it is sound, for " + reason, yard::isSound);
        }
        LinkerYard after = failing("");
        after.link(0);
        Check.due("a link that does not fail", 1, after::codeEnd);
        Check.due("one that fails behind it", 'u', () -> after.link(9));
        Check.dueBadState("the one before is gone", after::codeEnd);
        Check.due("one that does not fail behind that", '-', () -> after.link(1));
        Check.due("it stands", 1, after::codeEnd);
    }

    private static void takenObjects() {
        Check.sentence("10: IndexOutOfBoundsException if there is no such object, IllegalStateException if "
                + "there is no link");
        for (int objects : new int[] {1, 2, 10}) {
            for (int object : new int[] {MIN, -1, 0, objects - 1, objects, 10, MAX}) {
                LinkerYard yard = Build.objects("pppppppppp".substring(0, objects));
                boolean isThere = object >= 0 && object < objects;
                Check.due("object " + object + " of " + objects + ", no link",
                        isThere ? "throws IllegalStateException" : "throws IndexOutOfBoundsException",
                        () -> yard.isTaken(object));
                yard.addCommon(0, 0, 1);
                yard.link(0);
                Check.due("object " + object + " of " + objects, isThere ? true : "throws IndexOutOfBoundsException",
                        () -> yard.isTaken(object));
            }
        }
    }
}
