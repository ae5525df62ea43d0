/** The sentences about living and folded sections that name a boundary: their terms, promises 11 to 15. */
public final class LivingEdgeTest {
    private static final int MIN = Integer.MIN_VALUE;
    private static final int MAX = Integer.MAX_VALUE;

    private LivingEdgeTest() {
    }

    public static void main(String[] args) {
        kept();
        ofRoot();
        ofReference();
        farReached();
        commons();
        nothingToGoTo();
        foldsAlike();
        foldsLivingOnly();
        foldsCodeOnly();
        foldsIntoLowest();
        foldsSameSizes();
        foldsSameReferences();
        foldsSameGoals();
        foldsNoAddress();
        goesToFolded();
        fates();
        addresses();
        addressesOfNames();
        targets();
        Check.end();
    }

    private static void dueFates(String what, LinkerYard yard, int root, String fates) {
        Check.due("link: " + what, '-', () -> yard.link(root));
        Check.due("fates: " + what, fates, () -> Build.fates(yard, fates.length()));
    }

    private static LinkerYard rooted() {
        LinkerYard yard = Build.objects("pm");
        Build.code(yard, 0, 8, 1);
        yard.define(0, 0, 0, 's');
        return yard;
    }

    private static void kept() {
        Check.sentence("A section of an object that is taken lives if it is kept");
        LinkerYard yard = rooted();
        Build.keptCode(yard, 0, 1, 2);
        Build.keptData(yard, 0, 1);
        Build.code(yard, 0, 1, 2);
        Build.data(yard, 0, 1);
        Build.keptCode(yard, 1, 1, 2);
        Build.keptData(yard, 1, 1);
        dueFates("the member is not taken", yard, 0, "lllxxxx");
        yard.addCommon(1, 9, 1);
        yard.refer(3, 0, 9, 'a');
        dueFates("the member is taken", yard, 0, "lllxxfl");
        LinkerYard last = Build.objects("p");
        last.addCommon(0, 0, 1);
        for (int section = 0; section < 24; section++) {
            last.addSection(0, false, 1, 1, 0, section == 0 || section == 23);
        }
        dueFates("the first and the last of 24", last, 0, "lxxxxxxxxxxxxxxxxxxxxxxl");
    }

    private static void ofRoot() {
        Check.sentence("if it has the definition for which the root stands");
        for (int root : new int[] {0, 15}) {
            LinkerYard yard = Build.objects("p");
            for (int section = 0; section < 4; section++) {
                yard.addSection(0, section % 2 == 0, 1, 1, section, false);
            }
            yard.define(0, root, 0, 'l');
            yard.define(2, root, 0, 'w');
            yard.define(1, root, 0, 'w');
            dueFates("the lowest weak one", yard, root, "xlxx");
            yard.define(3, root, 0, 's');
            dueFates("the strong one", yard, root, "xxxl");
        }
    }

    private static void ofReference() {
        Check.sentence("or if a reference of a living section goes to a definition in it");
        for (char kind : new char[] {'c', 'a'}) {
            for (char strength : new char[] {'s', 'w', 'l'}) {
                LinkerYard yard = rooted();
                Build.data(yard, 0, 64);
                Build.data(yard, 0, 64);
                Build.data(yard, 0, 64);
                yard.define(2, 1, 63, strength);
                yard.define(1, 2, 63, strength);
                yard.refer(3, 0, 2, kind);
                yard.refer(0, 7, 1, kind);
                dueFates("by " + kind + " and " + strength, yard, 0, "lxlx");
            }
        }
        LinkerYard self = rooted();
        Build.code(self, 0, 4, 2);
        self.define(1, 1, 0, 's');
        self.refer(1, 0, 1, 'c');
        dueFates("one that refers to itself alone", self, 0, "lx");
    }

    /** Sections that each refer to the next one; the last section, or the first, is the end of the row. */
    private static LinkerYard row(boolean isRising, boolean isClosed) {
        LinkerYard yard = Build.objects("p");
        for (int section = 0; section < 16; section++) {
            Build.code(yard, 0, 1, section);
        }
        for (int place = 0; place < 16; place++) {
            int section = isRising ? place : 15 - place;
            yard.define(section, place, 0, 's');
        }
        for (int number = 0; number < 16; number++) {
            int place = isRising ? 15 - number : number;
            if (place < 15 || isClosed) {
                yard.refer(isRising ? place : 15 - place, 0, (place + 1) % 16, 'c');
            }
        }
        return yard;
    }

    private static void farReached() {
        Check.sentence("a reference of a living section: however far it is from the root");
        for (boolean isRising : new boolean[] {true, false}) {
            String what = "rising: " + isRising;
            String last = isRising ? "xxxxxxxxxxxxxxxl" : "lxxxxxxxxxxxxxxx";
            dueFates("from the first one, " + what, row(isRising, false), 0, "llllllllllllllll");
            dueFates("from the last one, " + what, row(isRising, false), 15, last);
            dueFates("all in a circle, " + what, row(isRising, true), 7, "llllllllllllllll");
            dueFates("24 sections, " + what, longRow(isRising), 0, "llllllllllllllllllllllll");
        }
    }

    /** As many sections as may be, each reached from the one before alone; two objects share the names by locals. */
    private static LinkerYard longRow(boolean isRising) {
        LinkerYard yard = Build.objects("pp");
        for (int section = 0; section < 24; section++) {
            Build.code(yard, section < 12 ? 0 : 1, 1, section);
        }
        for (int number = 0; number < 24; number++) {
            int place = isRising ? number : 23 - number;
            int section = isRising ? place : 23 - place;
            boolean isShared = place == 0 || place == 12;
            yard.define(section, isShared ? place : place % 12, 0, isShared ? 's' : 'l');
        }
        for (int number = 0; number < 23; number++) {
            int place = isRising ? 22 - number : number;
            int next = place + 1;
            yard.refer(isRising ? place : 23 - place, 0, next == 12 ? 12 : next % 12, 'c');
        }
        return yard;
    }

    private static void commons() {
        Check.sentence("A common lives if the root stands for it, or if a reference of a living section goes to it");
        for (int name : new int[] {0, 15}) {
            LinkerYard yard = Build.objects("p");
            Build.code(yard, 0, 4, 1);
            Build.code(yard, 0, 4, 2);
            yard.define(0, 7, 0, 's');
            yard.addCommon(0, name, 1);
            yard.addCommon(0, 15 - name, 2);
            yard.refer(1, 0, 15 - name, 'a');
            dueFates("neither", yard, 7, "lx");
            Check.due("no common lives", 1000, yard::dataEnd);
            dueFates("the root stands for it", yard, name, "xx");
            Check.due("one common lives", 1001, yard::dataEnd);
            Check.dueNoElement("the other one does not", () -> yard.addressOf(15 - name));
            dueFates("the root does not stand for it any more", yard, 7, "lx");
            Check.due("no common lives any more", 1000, yard::dataEnd);
            Check.dueNoElement("it does not live", () -> yard.addressOf(name));
            yard.refer(0, 0, name, 'c');
            dueFates("a reference goes to it", yard, 7, "lx");
            Check.due("the same common lives", 1001, yard::dataEnd);
            yard.define(0, name, 1, 's');
            dueFates("a strong one stands before it", yard, 7, "lx");
            Check.due("no common lives any more", 1000, yard::dataEnd);
        }
    }

    private static void nothingToGoTo() {
        Check.sentence("If a reference of a living section, or the root, has nothing to go to, the link fails, 'u'");
        for (char kind : new char[] {'c', 'a'}) {
            LinkerYard yard = rooted();
            Build.code(yard, 0, 4, 1);
            yard.refer(1, 0, 9, kind);
            Check.due("one that does not live", '-', () -> yard.link(0));
            yard.define(1, 2, 0, 's');
            Check.due("the root has it then", 'u', () -> yard.link(2));
            yard.refer(0, 0, 2, 'a');
            Check.due("a reference goes to it", 'u', () -> yard.link(0));
            yard.define(0, 9, 0, 'w');
            Check.due("a weak one is enough", '-', () -> yard.link(0));
        }
        LinkerYard kept = rooted();
        Build.keptData(kept, 0, 4);
        kept.refer(1, 3, 15, 'a');
        Check.due("a kept one", 'u', () -> kept.link(0));
        kept.addCommon(1, 15, 1);
        Check.due("a common in a member", '-', () -> kept.link(0));
        LinkerYard last = Build.objects("p");
        for (int number = 0; number < 40; number++) {
            if (number % 4 == 0) {
                Build.keptCode(last, 0, 4, 1);
            }
            last.refer(number / 4, number % 4, number == 39 ? 1 : 0, 'c');
        }
        last.define(0, 0, 0, 's');
        Check.due("the last of 40", 'u', () -> last.link(0));
        last.define(9, 1, 0, 'l');
        Check.due("it has a local one", '-', () -> last.link(0));
        LinkerYard root = rooted();
        root.define(0, 1, 0, 'l');
        Check.due("a root with a local one alone", 'u', () -> root.link(1));
        Check.due("a root with nothing", 'u', () -> root.link(15));
        LinkerYard weak = Build.objects("m");
        Build.code(weak, 0, 1, 1);
        weak.define(0, 0, 0, 'w');
        Check.due("a root with a weak one in a member", 'u', () -> weak.link(0));
    }

    /** Sections 0 and 1 are alike, of size 8, alignment 2, content 5; section 2 is the root and has data beside it. */
    private static LinkerYard twins() {
        LinkerYard yard = Build.objects("pp");
        yard.addSection(0, true, 8, 2, 5, true);
        yard.addSection(1, true, 8, 2, 5, true);
        Build.code(yard, 0, 16, 6);
        Build.keptData(yard, 0, 16);
        yard.define(2, 0, 0, 's');
        yard.define(0, 1, 0, 's');
        yard.define(1, 2, 0, 's');
        yard.define(2, 3, 4, 's');
        yard.define(2, 4, 4, 's');
        yard.define(3, 5, 4, 's');
        yard.addCommon(0, 6, 8);
        yard.addCommon(1, 7, 8);
        return yard;
    }

    private static void dueTwins(String what, LinkerYard yard, boolean isFolded) {
        dueFates(what, yard, 0, isFolded ? "lfll" : "llll");
    }

    private static void foldsAlike() {
        Check.sentence("A living code section is folded into a living code section with a lower number");
        dueTwins("alike, in two objects", twins(), true);
        LinkerYard ends = Build.objects("p");
        for (int section = 0; section < 24; section++) {
            Build.keptCode(ends, 0, 1, section == 23 ? 0 : section);
        }
        ends.define(0, 0, 0, 's');
        dueFates("the first and the last of 24", ends, 0, "lllllllllllllllllllllllf");
        LinkerYard all = Build.objects("p");
        for (int section = 0; section < 24; section++) {
            Build.keptCode(all, 0, 64, 999);
        }
        all.define(23, 0, 63, 's');
        dueFates("all 24", all, 0, "lfffffffffffffffffffffff");
        Check.due("one is laid", 64, all::codeEnd);
        Check.due("the root in the last one", 63, () -> all.addressOf(0));
    }

    private static void foldsLivingOnly() {
        Check.sentence("a living code section into a living code section");
        LinkerYard yard = Build.objects("p");
        Build.code(yard, 0, 8, 5);
        Build.keptCode(yard, 0, 8, 5);
        Build.code(yard, 0, 8, 5);
        Build.keptCode(yard, 0, 8, 5);
        yard.define(1, 0, 0, 's');
        dueFates("the first and the third do not live", yard, 0, "xlxf");
        yard.define(2, 1, 0, 's');
        dueFates("the third is the root", yard, 1, "xlff");
        yard.define(0, 2, 0, 's');
        dueFates("the first is the root", yard, 2, "lfxf");
    }

    private static void foldsCodeOnly() {
        Check.sentence("code into code");
        for (int codes = 0; codes < 4; codes++) {
            LinkerYard yard = Build.objects("p");
            yard.addSection(0, codes % 2 == 1, 8, 2, 5, true);
            yard.addSection(0, codes / 2 == 1, 8, 2, 5, true);
            yard.define(0, 0, 0, 's');
            dueFates("first is code: " + codes % 2 + ", second: " + codes / 2, yard, 0, codes == 3 ? "lf" : "ll");
        }
    }

    private static void foldsIntoLowest() {
        Check.sentence("with a lower number that is not folded, the lowest one");
        for (int asked = 0; asked < 4; asked++) {
            LinkerYard yard = Build.objects("p");
            for (int section = 0; section < 4; section++) {
                yard.addSection(0, true, 10, 1, 5, true);
                yard.define(section, section + 1, 1, 's');
            }
            Build.code(yard, 0, 8, 1);
            yard.define(4, 0, 0, 's');
            yard.refer(4, 0, asked + 1, 'a');
            for (int section = 1; section < 4; section++) {
                yard.refer(4, section, (asked + section) % 4 + 1, 'c');
            }
            int lowest = asked == 0 ? 1 : 0;
            StringBuilder fates = new StringBuilder("ffffl");
            fates.setCharAt(asked, 'l');
            fates.setCharAt(lowest, 'l');
            dueFates("the address of " + asked + " is asked for", yard, 0, fates.toString());
            for (int section = 0; section < 4; section++) {
                int number = section;
                int due = section == asked || section == lowest ? Math.min(section, 1) : lowest;
                int laidBehind = section == asked && asked > 1 ? 1 : due;
                Check.due("address of " + section, 10 * laidBehind, () -> yard.address(number));
            }
            for (int call = 1; call < 4; call++) {
                int number = call;
                Check.due("target of call " + call, lowest, () -> yard.target(number));
            }
        }
    }

    private static LinkerYard unlike(int size, int alignment, int content) {
        LinkerYard yard = twins();
        yard.addSection(0, true, size, alignment, content, true);
        return yard;
    }

    private static void foldsSameSizes() {
        Check.sentence("they have the same size, alignment and content");
        dueFates("all the same", unlike(8, 2, 5), 0, "lfllf");
        for (int size : new int[] {1, 7, 9, 64}) {
            dueFates("size " + size, unlike(size, 2, 5), 0, "lflll");
        }
        for (int alignment : new int[] {1, 4, 8, 16}) {
            dueFates("alignment " + alignment, unlike(8, alignment, 5), 0, "lflll");
        }
        for (int content : new int[] {0, 4, 6, 999}) {
            dueFates("content " + content, unlike(8, 2, content), 0, "lflll");
        }
    }

    /** Twins with references, each told by its offset, its name and its kind. */
    private static LinkerYard twins(String first, String second) {
        LinkerYard yard = twins();
        String[] texts = {first, second};
        for (int twin = 0; twin < 2; twin++) {
            for (String told : texts[twin].isEmpty() ? new String[0] : texts[twin].split(" ")) {
                yard.refer(twin, told.charAt(0) - '0', told.charAt(1) - '0', told.charAt(2));
            }
        }
        return yard;
    }

    private static void dueTwins(String first, String second, boolean isFolded) {
        dueTwins(first + " and " + second, twins(first, second), isFolded);
        dueTwins(second + " and " + first, twins(second, first), isFolded);
    }

    private static void foldsSameReferences() {
        Check.sentence("as many references, which have the same offsets and kinds one by one, in the order of "
                + "their offsets");
        dueTwins("03c", "03c", true);
        dueTwins("73c", "73c", true);
        dueTwins("03c 16a 25c 73c", "03c 16a 25c 73c", true);
        dueTwins("03c 16a 25c 73c", "73c 25c 16a 03c", true);
        dueTwins("", "03c", false);
        dueTwins("03c", "03c 13c", false);
        dueTwins("13c", "03c 13c", false);
        dueTwins("03c 13c 23c", "03c 13c 23c 73c", false);
        dueTwins("13c 23c 73c", "03c 13c 23c 73c", false);
        dueTwins("03c", "13c", false);
        dueTwins("63c", "73c", false);
        dueTwins("03c 13c 23c 73c", "03c 13c 23c 63c", false);
        dueTwins("06c", "06a", false);
        dueTwins("06c 16a", "06a 16c", false);
        dueTwins("03c 16c 26c 76c", "03c 16c 26c 76a", false);
    }

    private static void foldsSameGoals() {
        Check.sentence("and go to the same definitions or commons; two definitions at one offset are not the same");
        dueTwins("06a 17c", "06a 17c", true);
        dueTwins("05a", "05a", true);
        dueTwins("06a", "07a", false);
        dueTwins("06a", "05a", false);
        dueTwins("03c", "04c", false);
        dueTwins("03c 14c", "04c 13c", false);
        dueTwins("03c 13c 23c 73c", "03c 13c 23c 74c", false);
        LinkerYard locals = twins("03c", "03c");
        locals.define(1, 3, 0, 'l');
        dueTwins("one name, a local one in one object", locals, false);
        LinkerYard same = twins("01c", "01c");
        dueTwins("both call the first one", same, true);
        dueTwins("each calls itself", twins("01c", "02c"), false);
        dueTwins("each calls the other", twins("02c", "01c"), false);
    }

    private static void foldsNoAddress() {
        Check.sentence("no reference of a living section that asks for an address goes to either of them");
        for (int name = 1; name <= 2; name++) {
            for (int from = 0; from < 4; from++) {
                LinkerYard yard = twins();
                yard.refer(from, 7, name, 'a');
                if (from < 2) {
                    yard.refer(1 - from, 7, name, 'a');
                }
                dueTwins("name " + name + " from section " + from, yard, false);
            }
            LinkerYard call = twins();
            call.refer(3, 7, name, 'c');
            dueTwins("a call of data by name " + name, call, true);
            LinkerYard dead = twins();
            dead.refer(Build.code(dead, 0, 1, 0), 0, name, 'a');
            dueTwins("from one that does not live", dead, true);
            LinkerYard folded = twins();
            for (int more = 0; more < 2; more++) {
                int section = folded.addSection(0, true, 4, 1, 9, true);
                folded.refer(section, 0, name, 'a');
            }
            dueFates("from one that is folded", folded, 0, "lllllf");
        }
        LinkerYard local = twins();
        local.define(0, 9, 7, 'l');
        local.refer(3, 0, 9, 'a');
        dueTwins("to a local definition", local, false);
        LinkerYard other = twins();
        other.refer(3, 0, 0, 'a');
        other.refer(3, 1, 6, 'a');
        dueTwins("to another section and a common", other, true);
        LinkerYard last = twins();
        for (int number = 0; number < 39; number++) {
            int section = number % 4 == 0 ? Build.keptData(last, 1, 4) : 4 + number / 4;
            last.refer(section, number % 4, 6, 'a');
        }
        dueTwins("39 others", last, true);
        last.refer(13, 3, 2, 'a');
        dueTwins("the last of 40", last, false);
    }

    private static void goesToFolded() {
        Check.sentence("What goes to a folded section goes to the one into which it is folded");
        LinkerYard yard = twins("03c", "03c");
        yard.define(1, 9, 7, 's');
        yard.refer(2, 0, 2, 'c');
        yard.refer(2, 1, 9, 'c');
        dueTwins("calls of the second one", yard, true);
        Check.due("target", 0, () -> yard.target(2));
        Check.due("the same anew", 0, () -> yard.targetAnew(2));
        Check.due("value", -8, () -> yard.valueOf(2));
        Check.due("value at an offset", 7 - 9, () -> yard.valueOf(3));
        Check.due("address of the definition", 0, () -> yard.addressOf(2));
        Check.due("address of the definition at an offset", 7, () -> yard.addressOf(9));
        Check.due("a run goes there", true, () -> yard.run() == yard.runPlain());
    }

    private static void fates() {
        Check.sentence("11: 'x' if it does not live, 'f' if it is folded, 'l' if it is laid");
        for (int section : new int[] {MIN, -1, 0, 1, 2, 3, 4, 24, MAX}) {
            LinkerYard yard = Build.objects("p");
            Build.code(yard, 0, 4, 1);
            Build.code(yard, 0, 4, 1);
            Build.keptCode(yard, 0, 4, 1);
            Build.keptData(yard, 0, 4);
            yard.define(0, 0, 0, 's');
            boolean isThere = section >= 0 && section < 4;
            String wrong = "throws IndexOutOfBoundsException";
            Check.due("section " + section + ", no link", isThere ? "throws IllegalStateException" : wrong,
                    () -> yard.fate(section));
            yard.link(0);
            Check.due("section " + section, isThere ? "lxfl".charAt(section) : wrong, () -> yard.fate(section));
        }
    }

    private static void addresses() {
        Check.sentence("12: the address of a section; of one that is folded, that of the one into which it is folded");
        for (int section : new int[] {MIN, -1, 0, 1, 2, 3, 4, 5, 6, 24, MAX}) {
            LinkerYard yard = Build.objects("pm");
            Build.code(yard, 0, 4, 0);
            Build.keptCode(yard, 0, 5, 1);
            Build.keptCode(yard, 0, 4, 0);
            Build.keptCode(yard, 0, 5, 1);
            Build.data(yard, 0, 4);
            Build.keptCode(yard, 1, 5, 1);
            yard.define(2, 0, 0, 's');
            boolean isThere = section >= 0 && section < 6;
            String[] due = {"throws NoSuchElementException", "0", "5", "0", "throws NoSuchElementException",
                "throws NoSuchElementException"};
            String wrong = "throws IndexOutOfBoundsException";
            Check.due("section " + section + ", no link", isThere ? "throws IllegalStateException" : wrong,
                    () -> yard.address(section));
            yard.link(0);
            Check.due("section " + section, isThere ? due[section] : wrong, () -> yard.address(section));
        }
    }

    private static void addressesOfNames() {
        Check.sentence("13: NoSuchElementException if it stands for none, or for one that does not live");
        LinkerYard yard = Build.objects("pm");
        Build.code(yard, 0, 4, 0);
        Build.code(yard, 0, 4, 1);
        Build.code(yard, 1, 4, 2);
        yard.define(0, 0, 0, 's');
        yard.define(0, 15, 3, 'w');
        yard.define(1, 1, 0, 's');
        yard.define(1, 2, 0, 'w');
        yard.addCommon(0, 3, 1);
        yard.define(0, 4, 0, 'l');
        yard.define(2, 5, 0, 's');
        yard.addCommon(1, 6, 1);
        yard.addCommon(0, 8, 1);
        yard.refer(0, 1, 8, 'a');
        yard.define(0, 8, 0, 'w');
        yard.define(0, 9, 0, 'w');
        yard.addCommon(0, 9, 1);
        String none = "throws NoSuchElementException";
        String[] due = {"0", none, none, none, none, none, none, none, "1000", none, none, none, none, none, none, "3"};
        String[] what = {"the root", "a strong one that does not live", "a weak one that does not live",
            "a common that does not live", "a local one", "one in a member that is not taken",
            "a common in a member that is not taken", "nothing", "a common that lives",
            "a common that does not live ahead of a weak one that would", "nothing", "nothing", "nothing", "nothing",
            "nothing", "a weak one that lives"};
        for (int name : new int[] {MIN, -1, 16, MAX}) {
            Check.dueBadArgument("name " + name + ", no link", () -> yard.addressOf(name));
        }
        Check.dueBadState("name 0, no link", () -> yard.addressOf(0));
        Check.dueBadState("name 15, no link", () -> yard.addressOf(15));
        yard.link(0);
        for (int name = 0; name < 16; name++) {
            int asked = name;
            Check.due("name " + name + ", " + what[name], due[name], () -> yard.addressOf(asked));
        }
        for (int name : new int[] {MIN, -1, 16, MAX}) {
            Check.dueBadArgument("name " + name, () -> yard.addressOf(name));
        }
        LinkerYard common = Build.objects("p");
        common.addCommon(0, 15, 1);
        common.link(15);
        Check.due("a common that is the root", 1000, () -> common.addressOf(15));
    }

    private static void targets() {
        Check.sentence("14, 15: the number of the section, or -1 if it goes to a common");
        LinkerYard yard = Build.objects("pm");
        Build.code(yard, 0, 4, 0);
        Build.keptData(yard, 0, 4);
        Build.code(yard, 0, 4, 1);
        Build.keptCode(yard, 1, 4, 2);
        yard.define(0, 0, 0, 's');
        yard.define(1, 1, 3, 's');
        yard.addCommon(0, 2, 1);
        yard.refer(0, 0, 0, 'c');
        yard.refer(0, 1, 1, 'a');
        yard.refer(1, 0, 2, 'a');
        yard.refer(1, 1, 0, 'a');
        yard.refer(2, 0, 0, 'c');
        yard.refer(3, 0, 0, 'c');
        String none = "throws NoSuchElementException";
        String[] due = {"0", "1", "-1", "0", none, none};
        for (int reference : new int[] {MIN, -1, 6, 40, MAX}) {
            Check.dueOutOfBounds("reference " + reference + ", no link", () -> yard.target(reference));
            Check.dueOutOfBounds("the same anew", () -> yard.targetAnew(reference));
        }
        Check.dueBadState("reference 0, no link", () -> yard.target(0));
        Check.dueBadState("the same anew", () -> yard.targetAnew(0));
        Check.dueBadState("reference 5, no link", () -> yard.target(5));
        Check.dueBadState("the same anew", () -> yard.targetAnew(5));
        yard.link(0);
        for (int reference = 0; reference < 6; reference++) {
            int number = reference;
            Check.due("reference " + number, due[number], () -> yard.target(number));
            Check.due("the same anew", due[number], () -> yard.targetAnew(number));
        }
        for (int reference : new int[] {MIN, -1, 6, 40, MAX}) {
            Check.dueOutOfBounds("reference " + reference, () -> yard.target(reference));
            Check.dueOutOfBounds("the same anew", () -> yard.targetAnew(reference));
        }
        LinkerYard folded = twins("03c", "03c");
        folded.link(0);
        Check.due("of one that is folded", 2, () -> folded.target(1));
        Check.due("the same anew", 2, () -> folded.targetAnew(1));
    }
}
