import java.util.ArrayList;
import java.util.List;

/** The sentences about exceptions: what is refused changes nothing, which comes first, and when a link ends. */
public final class RefusalEdgeTest {
    /** A call of a yard that is given. */
    private interface Ask {
        Object of(LinkerYard yard);
    }

    /** A call, and the exception by which it is refused, or what else it answers. */
    private record Refused(String what, String by, Ask call) {
    }

    /** Makes a yard in one state, the same each time. */
    private interface State {
        LinkerYard make();
    }

    private static final int MIN = Integer.MIN_VALUE;
    private static final int MAX = Integer.MAX_VALUE;
    private static final String BOUNDS = "IndexOutOfBoundsException";
    private static final String ARGUMENT = "IllegalArgumentException";
    private static final String STATE = "IllegalStateException";
    private static final String ELEMENT = "NoSuchElementException";
    private static final String UNSUPPORTED = "UnsupportedOperationException";
    private static final String ARITHMETIC = "ArithmeticException";

    private final List<Refused> refused = new ArrayList<>();

    private RefusalEdgeTest() {
    }

    public static void main(String[] args) {
        refusedWhenNew();
        refusedWhenTold();
        refusedWhenLinked();
        refusedWithoutSections();
        refusedWhenFull();
        firstOfInputs();
        firstOfMaps();
        firstOfLibraries();
        endOfLink();
        noEndOfLink();
        Check.end();
    }

    /** The answers to all questions, then to a row of calls that tell more, and what is seen behind these. */
    private static List<String> story(LinkerYard yard) {
        List<Ask> asks = new ArrayList<>();
        for (int number = 0; number < 24; number++) {
            int asked = number;
            if (number < 10) {
                asks.add(one -> one.isTaken(asked));
            }
            if (number < 16) {
                asks.add(one -> one.addressOf(asked));
            }
            asks.add(one -> one.fate(asked));
            asks.add(one -> one.address(asked));
        }
        for (int number = 0; number < 40; number++) {
            int asked = number;
            asks.add(one -> one.target(asked));
            asks.add(one -> one.valueOf(asked));
            asks.add(one -> one.hasIsland(asked));
        }
        asks.addAll(List.of(LinkerYard::islands, LinkerYard::codeEnd, LinkerYard::dataEnd, LinkerYard::checksum,
                LinkerYard::run, LinkerYard::runPlain, LinkerYard::steps, LinkerYard::laidShare, LinkerYard::meanSize));
        askLibraries(asks);
        asks.add(one -> one.tell(true, false));
        tellInputs(asks);
        tellLibraries(asks);
        List<String> answers = new ArrayList<>();
        for (Ask ask : asks) {
            answers.add(Check.told(() -> ask.of(yard)));
        }
        return answers;
    }

    private static void askLibraries(List<Ask> asks) {
        for (int number = 0; number < 8; number++) {
            int asked = number;
            asks.add(one -> one.count(asked));
            asks.add(one -> one.loadedAt(asked));
        }
        asks.add(LinkerYard::bindings);
    }

    private static void tellInputs(List<Ask> asks) {
        asks.add(one -> one.addObject(false));
        asks.add(one -> one.addSection(0, true, 2, 1, 3, true));
        for (int number = 0; number < 16; number++) {
            int name = number;
            asks.add(one -> one.define(4, name, 0, 'w'));
            asks.add(one -> one.addCommon(0, name, 7));
        }
        for (int number = 0; number < 8; number++) {
            int offset = number;
            asks.add(one -> one.refer(1, offset, 0, 'a'));
        }
        asks.add(one -> one.setReach(999));
        asks.add(one -> one.link(0));
        asks.addAll(List.of(LinkerYard::codeEnd, LinkerYard::dataEnd, LinkerYard::checksum, LinkerYard::run));
        asks.add(one -> one.setRooms(999, 999));
        asks.add(one -> one.link(0));
        asks.addAll(List.of(LinkerYard::codeEnd, LinkerYard::dataEnd, LinkerYard::checksum, LinkerYard::run));
    }

    private static void tellLibraries(List<Ask> asks) {
        for (int number = 0; number < 8; number++) {
            int library = number;
            asks.add(one -> one.bind(library, 3, 2));
        }
        asks.add(LinkerYard::bindings);
        for (int number = 7; number >= 0; number--) {
            int library = number;
            asks.add(one -> one.unload(library));
        }
        asks.add(LinkerYard::bindings);
        for (int number = 0; number < 8; number++) {
            int library = number;
            asks.add(one -> one.provide(library, 3, 5));
            asks.add(one -> one.need(library, (library + 1) % 8));
            asks.add(one -> one.load(library));
        }
        asks.add(LinkerYard::addLibrary);
    }

    private void refuse(String what, String by, Ask call) {
        refused.add(new Refused(what, by, call));
    }

    /** Each refused call alone leaves the story as it is without it, and so do all of them together. */
    private void dueUnchanged(String state, State made) {
        Check.sentence("A method that throws an exception changes nothing, " + state);
        List<String> want = story(made.make());
        for (Refused one : refused) {
            LinkerYard yard = made.make();
            Check.due(one.what, "throws " + one.by, () -> one.call.of(yard));
            Check.due("the story behind " + one.what, want, () -> story(yard));
        }
        LinkerYard all = made.make();
        for (Refused one : refused.subList(0, Math.min(50, refused.size()))) {
            Check.due(one.what, "throws " + one.by, () -> one.call.of(all));
        }
        Check.due("the story behind the first of them", want, () -> story(all));
    }

    private void refuseBadNames() {
        for (int name : new int[] {MIN, -1, 16, MAX}) {
            refuse("link " + name, ARGUMENT, one -> one.link(name));
            refuse("addressOf " + name, ARGUMENT, one -> one.addressOf(name));
        }
    }

    private void refuseBadRooms() {
        for (int room : new int[] {MIN, 0, 1000, MAX}) {
            refuse("setRooms for code " + room, ARGUMENT, one -> one.setRooms(room, 7));
            refuse("setRooms for data " + room, ARGUMENT, one -> one.setRooms(7, room));
        }
        for (int reach : new int[] {MIN, 79, 1000, MAX}) {
            refuse("setReach " + reach, ARGUMENT, one -> one.setReach(reach));
        }
    }

    private void refuseNoObject(int object) {
        refuse("addSection of " + object, BOUNDS, one -> one.addSection(object, true, 1, 1, 0, true));
        refuse("addCommon of " + object, BOUNDS, one -> one.addCommon(object, 10, 1));
        refuse("isTaken " + object, BOUNDS, one -> one.isTaken(object));
    }

    private void refuseNoSection(int section) {
        refuse("define in " + section, BOUNDS, one -> one.define(section, 10, 0, 's'));
        refuse("refer in " + section, BOUNDS, one -> one.refer(section, 5, 10, 'c'));
        refuse("fate " + section, BOUNDS, one -> one.fate(section));
        refuse("address " + section, BOUNDS, one -> one.address(section));
    }

    private void refuseNoReference(int reference) {
        refuse("target " + reference, BOUNDS, one -> one.target(reference));
        refuse("targetAnew " + reference, BOUNDS, one -> one.targetAnew(reference));
        refuse("valueOf " + reference, BOUNDS, one -> one.valueOf(reference));
        refuse("hasIsland " + reference, BOUNDS, one -> one.hasIsland(reference));
    }

    private void refuseNoLibrary(int library) {
        refuse("provide of " + library, ELEMENT, one -> one.provide(library, 3, 9));
        refuse("need of " + library, ELEMENT, one -> one.need(library, 0));
        refuse("need for " + library, ELEMENT, one -> one.need(4, library));
        refuse("load " + library, ELEMENT, one -> one.load(library));
        refuse("unload " + library, ELEMENT, one -> one.unload(library));
        refuse("count " + library, ELEMENT, one -> one.count(library));
        refuse("bind of " + library, ELEMENT, one -> one.bind(library, 3, 1));
    }

    private void refuseFigures(String by) {
        refuse("laidShare", by, LinkerYard::laidShare);
        refuse("meanSize", by, LinkerYard::meanSize);
    }

    private void refuseWithoutLink() {
        refuse("isTaken", STATE, one -> one.isTaken(0));
        refuse("fate", STATE, one -> one.fate(0));
        refuse("address", STATE, one -> one.address(4));
        refuse("addressOf", STATE, one -> one.addressOf(15));
        refuse("target", STATE, one -> one.target(3));
        refuse("targetAnew", STATE, one -> one.targetAnew(3));
        refuse("valueOf", STATE, one -> one.valueOf(3));
        refuse("hasIsland", STATE, one -> one.hasIsland(0));
        refuse("islands", STATE, LinkerYard::islands);
        refuse("codeEnd", STATE, LinkerYard::codeEnd);
        refuse("dataEnd", STATE, LinkerYard::dataEnd);
        refuse("checksum", STATE, LinkerYard::checksum);
        refuse("run", STATE, LinkerYard::run);
        refuse("runPlain", STATE, LinkerYard::runPlain);
        refuse("steps", STATE, LinkerYard::steps);
        refuse("isSound", STATE, LinkerYard::isSound);
        refuseFigures(STATE);
    }

    private static void refusedWhenNew() {
        RefusalEdgeTest test = new RefusalEdgeTest();
        test.refuseBadNames();
        test.refuseBadRooms();
        for (int number : new int[] {MIN, -1, 0, MAX}) {
            test.refuseNoObject(number);
            test.refuseNoSection(number);
            test.refuseNoReference(number);
            test.refuseNoLibrary(number);
            test.refuse("loadedAt " + number, BOUNDS, one -> one.loadedAt(number));
        }
        test.refuseFigures(STATE);
        test.dueUnchanged("of a new yard", LinkerYard::new);
    }

    /** A yard with some of all: folded, dead and data sections, an island, a member that is not taken, bindings. */
    private static LinkerYard some() {
        LinkerYard yard = Build.objects("pmm");
        Build.code(yard, 0, 8, 1);
        yard.addSection(0, true, 8, 2, 5, true);
        yard.addSection(1, true, 8, 2, 5, true);
        Build.keptData(yard, 0, 8);
        Build.code(yard, 0, 8, 7);
        Build.code(yard, 2, 8, 8);
        yard.define(0, 0, 0, 's');
        yard.define(2, 1, 7, 's');
        yard.define(3, 2, 0, 'w');
        yard.define(4, 3, 0, 's');
        yard.define(5, 4, 0, 's');
        yard.define(3, 5, 1, 'l');
        yard.addCommon(0, 6, 5);
        yard.addCommon(1, 7, 4);
        yard.refer(0, 0, 1, 'c');
        yard.refer(0, 1, 2, 'a');
        yard.refer(0, 2, 6, 'c');
        yard.refer(4, 0, 0, 'c');
        yard.refer(0, 3, 5, 'a');
        yard.refer(1, 0, 0, 'c');
        yard.refer(2, 0, 0, 'c');
        yard.setRooms(500, 400);
        yard.setReach(80);
        someLibraries(yard);
        return yard;
    }

    private static void someLibraries(LinkerYard yard) {
        for (int library = 0; library < 5; library++) {
            yard.addLibrary();
        }
        yard.need(0, 1);
        yard.need(1, 2);
        yard.need(4, 0);
        yard.provide(1, 3, 4);
        yard.provide(2, 9, 9);
        yard.provide(4, 3, 1);
        yard.load(0);
        yard.load(3);
        yard.bind(3, 3, 2);
        yard.bind(0, 9, 9);
        yard.tell(false, false);
    }

    private static LinkerYard someLinked() {
        LinkerYard yard = some();
        yard.link(0);
        return yard;
    }

    private void refuseOfSome() {
        for (int number : new int[] {MIN, -1, MAX}) {
            refuseNoObject(number);
            refuseNoSection(number);
            refuseNoReference(number);
            refuseNoLibrary(number);
        }
        refuseNoObject(3);
        refuseNoSection(6);
        refuseNoReference(7);
        refuseNoLibrary(5);
        refuse("loadedAt 4", BOUNDS, one -> one.loadedAt(4));
        refuse("loadedAt -1", BOUNDS, one -> one.loadedAt(-1));
        refuseBadNames();
        refuseBadRooms();
        refuseSections(ARGUMENT);
        refuseParts();
        refuseLibraries();
    }

    private void refuseSections(String by) {
        refuse("size 0", by, one -> one.addSection(0, true, 0, 1, 0, true));
        refuse("size 65", by, one -> one.addSection(0, true, 65, 1, 0, true));
        refuse("alignment 0", by, one -> one.addSection(0, true, 1, 0, 0, true));
        refuse("alignment 3", by, one -> one.addSection(0, true, 1, 3, 0, true));
        refuse("alignment 32", by, one -> one.addSection(0, true, 1, 32, 0, true));
        refuse("content -1", by, one -> one.addSection(0, true, 1, 1, -1, true));
        refuse("content 1000", by, one -> one.addSection(0, true, 1, 1, 1000, true));
    }

    private void refuseParts() {
        refuse("define name -1", ARGUMENT, one -> one.define(0, -1, 0, 's'));
        refuse("define name 16", ARGUMENT, one -> one.define(0, 16, 0, 's'));
        refuse("define at offset -1", ARGUMENT, one -> one.define(0, 9, -1, 's'));
        refuse("define at offset 8", ARGUMENT, one -> one.define(0, 9, 8, 's'));
        refuse("define with strength x", ARGUMENT, one -> one.define(0, 9, 0, 'x'));
        refuse("define again", STATE, one -> one.define(0, 0, 1, 'w'));
        refuse("addCommon for name -1", ARGUMENT, one -> one.addCommon(0, -1, 1));
        refuse("addCommon for name 16", ARGUMENT, one -> one.addCommon(0, 16, 1));
        refuse("addCommon of size 0", ARGUMENT, one -> one.addCommon(0, 9, 0));
        refuse("addCommon of size 65", ARGUMENT, one -> one.addCommon(0, 9, 65));
        refuse("addCommon again", STATE, one -> one.addCommon(0, 6, 64));
        refuse("refer at offset -1", ARGUMENT, one -> one.refer(1, -1, 0, 'c'));
        refuse("refer at offset 8", ARGUMENT, one -> one.refer(1, 8, 0, 'c'));
        refuse("refer to name -1", ARGUMENT, one -> one.refer(1, 1, -1, 'c'));
        refuse("refer to name 16", ARGUMENT, one -> one.refer(1, 1, 16, 'c'));
        refuse("refer with kind x", ARGUMENT, one -> one.refer(1, 1, 0, 'x'));
        refuse("refer again", STATE, one -> one.refer(1, 0, 3, 'a'));
        refuse("refer a fifth time", STATE, one -> one.refer(0, 7, 3, 'a'));
    }

    private void refuseLibraries() {
        refuse("provide name 16", ARGUMENT, one -> one.provide(4, 16, 1));
        refuse("provide name -1", ARGUMENT, one -> one.provide(4, -1, 1));
        refuse("provide version 0", ARGUMENT, one -> one.provide(4, 3, 0));
        refuse("provide version 10", ARGUMENT, one -> one.provide(4, 3, 10));
        refuse("provide of a loaded one", UNSUPPORTED, one -> one.provide(1, 3, 9));
        refuse("need of itself", ARGUMENT, one -> one.need(4, 4));
        refuse("need of a loaded one", UNSUPPORTED, one -> one.need(0, 3));
        refuse("need again", STATE, one -> one.need(4, 0));
        refuse("unload of none", STATE, one -> one.unload(4));
        refuse("unload by which one leaves that is bound to", UNSUPPORTED, one -> one.unload(0));
        refuse("unload of one that is bound to", UNSUPPORTED, one -> one.unload(1));
        refuse("unload of one that is needed and bound to", UNSUPPORTED, one -> one.unload(2));
        refuse("bind name 16", ARGUMENT, one -> one.bind(3, 16, 1));
        refuse("bind version 0", ARGUMENT, one -> one.bind(3, 3, 0));
        refuse("bind version 10", ARGUMENT, one -> one.bind(3, 3, 10));
        refuse("bind of one that is not loaded", STATE, one -> one.bind(4, 3, 1));
        refuse("bind a later version", UNSUPPORTED, one -> one.bind(3, 3, 5));
        refuse("bind a name of nobody", UNSUPPORTED, one -> one.bind(3, 4, 1));
    }

    private static void refusedWhenTold() {
        RefusalEdgeTest test = new RefusalEdgeTest();
        test.refuseOfSome();
        test.refuseWithoutLink();
        test.dueUnchanged("of a yard without a link", RefusalEdgeTest::some);
    }

    private static void refusedWhenLinked() {
        RefusalEdgeTest test = new RefusalEdgeTest();
        test.refuseOfSome();
        test.refuse("address of one that does not live", ELEMENT, one -> one.address(4));
        test.refuse("address of one that is not taken", ELEMENT, one -> one.address(5));
        test.refuse("addressOf one that does not live", ELEMENT, one -> one.addressOf(3));
        test.refuse("addressOf none", ELEMENT, one -> one.addressOf(15));
        test.refuse("target of one that does not live", ELEMENT, one -> one.target(3));
        test.refuse("targetAnew of one that does not live", ELEMENT, one -> one.targetAnew(3));
        test.refuse("valueOf one that does not live", ELEMENT, one -> one.valueOf(3));
        test.refuse("valueOf one that is folded", ELEMENT, one -> one.valueOf(6));
        Check.sentence("the yard that is asked has a link, a folded section and an island");
        Check.due("fates", "llflxx", () -> Build.fates(someLinked(), 6));
        Check.due("islands", 1, () -> someLinked().islands());
        test.dueUnchanged("of a yard with a link", RefusalEdgeTest::someLinked);
    }

    private static LinkerYard withoutSections() {
        LinkerYard yard = Build.objects("p");
        yard.addCommon(0, 0, 5);
        yard.link(0);
        return yard;
    }

    private static void refusedWithoutSections() {
        RefusalEdgeTest test = new RefusalEdgeTest();
        test.refuseFigures(ARITHMETIC);
        test.dueUnchanged("of a yard with a link and no sections", RefusalEdgeTest::withoutSections);
    }

    /** A yard with as many of all as there may be, and a link. */
    private static LinkerYard full() {
        LinkerYard yard = Build.objects("pmpmpmpmpm");
        for (int section = 0; section < 24; section++) {
            yard.addSection(section % 10, section % 3 > 0, 8, 1, section % 2, section % 5 == 0);
        }
        for (int number = 0; number < 40; number++) {
            yard.define(number % 20, number % 15, number % 8, number < 5 ? 's' : number % 2 == 0 ? 'w' : 'l');
            yard.refer(number % 20, number % 7, number % 15, number % 4 == 0 ? 'a' : 'c');
        }
        for (int library = 0; library < 8; library++) {
            yard.addLibrary();
            yard.provide(library, 3, 9 - library);
            yard.load(library);
        }
        yard.link(0);
        return yard;
    }

    private static void refusedWhenFull() {
        RefusalEdgeTest test = new RefusalEdgeTest();
        test.refuse("an 11th object", STATE, one -> one.addObject(false));
        test.refuse("an 11th object, a member", STATE, one -> one.addObject(true));
        test.refuse("a 25th section", STATE, one -> one.addSection(0, true, 1, 1, 0, true));
        test.refuse("a 41st definition", STATE, one -> one.define(23, 0, 0, 's'));
        test.refuse("a 41st reference", STATE, one -> one.refer(23, 0, 0, 'c'));
        test.refuse("a ninth library", STATE, LinkerYard::addLibrary);
        test.refuse("library 8", ELEMENT, one -> one.load(8));
        test.refuse("place 8", BOUNDS, one -> one.loadedAt(8));
        test.refuseSections(ARGUMENT);
        Check.sentence("the yard that is asked is full and has a link");
        Check.due("the first definition stands", 'l', () -> full().fate(0));
        test.dueUnchanged("of a full yard", RefusalEdgeTest::full);
    }

    private static void dueFirst(String what, String first, State made, Ask call) {
        Check.due(what, "throws " + first, () -> call.of(made.make()));
    }

    private static void firstOfInputs() {
        Check.sentence("If several exceptions apply, the one that is documented first is thrown: inputs");
        State full = RefusalEdgeTest::full;
        for (int size : new int[] {0, 1}) {
            dueFirst("3: no object, size " + size + ", 24 sections", BOUNDS, full,
                    one -> one.addSection(10, true, size, 1, 0, true));
            dueFirst("3: no object, alignment " + size, BOUNDS, full, one -> one.addSection(-1, true, 1, size, 0,
                    true));
            dueFirst("3: no object, content " + (size - 1), BOUNDS, LinkerYard::new,
                    one -> one.addSection(0, true, 1, 1, size - 1, true));
        }
        dueFirst("3: size, 24 sections", ARGUMENT, full, one -> one.addSection(0, true, 65, 1, 0, true));
        dueFirst("3: alignment, 24 sections", ARGUMENT, full, one -> one.addSection(0, true, 1, 5, 0, true));
        dueFirst("3: content, 24 sections", ARGUMENT, full, one -> one.addSection(0, true, 1, 1, 1000, true));
        dueFirst("4: no section, name, offset, strength, 40 definitions", BOUNDS, full,
                one -> one.define(24, 16, 99, 'x'));
        dueFirst("4: no section, 40 definitions", BOUNDS, full, one -> one.define(24, 0, 0, 's'));
        dueFirst("4: name, 40 definitions", ARGUMENT, full, one -> one.define(23, 16, 0, 's'));
        dueFirst("4: offset, 40 definitions", ARGUMENT, full, one -> one.define(23, 0, 8, 's'));
        dueFirst("4: strength, 40 definitions", ARGUMENT, full, one -> one.define(23, 0, 0, 'x'));
        dueFirst("4: offset, the name again", ARGUMENT, RefusalEdgeTest::some, one -> one.define(0, 0, 8, 's'));
        dueFirst("4: strength, the name again", ARGUMENT, RefusalEdgeTest::some, one -> one.define(0, 0, 0, 'c'));
        dueFirst("5: no object, name, size", BOUNDS, full, one -> one.addCommon(10, 16, 0));
        dueFirst("5: no object, size", BOUNDS, full, one -> one.addCommon(-1, 0, 65));
        dueFirst("5: size, a common there", ARGUMENT, RefusalEdgeTest::some, one -> one.addCommon(0, 6, 65));
        dueFirst("6: no section, offset, name, kind, 40 references", BOUNDS, full, one -> one.refer(24, 99, 16, 'x'));
        dueFirst("6: no section, 40 references", BOUNDS, full, one -> one.refer(-1, 0, 0, 'c'));
        dueFirst("6: offset, 40 references", ARGUMENT, full, one -> one.refer(23, 8, 0, 'c'));
        dueFirst("6: name, 40 references", ARGUMENT, full, one -> one.refer(23, 0, -1, 'c'));
        dueFirst("6: kind, 40 references", ARGUMENT, full, one -> one.refer(23, 0, 0, 's'));
        dueFirst("6: name, at an offset again", ARGUMENT, RefusalEdgeTest::some, one -> one.refer(1, 0, 16, 'c'));
        dueFirst("6: kind, at an offset again", ARGUMENT, RefusalEdgeTest::some, one -> one.refer(1, 0, 0, 'x'));
        dueFirst("6: offset, a fifth", ARGUMENT, RefusalEdgeTest::some, one -> one.refer(0, 8, 0, 'c'));
        dueFirst("6: kind, a fifth", ARGUMENT, RefusalEdgeTest::some, one -> one.refer(0, 7, 0, 'x'));
    }

    private static void firstOfMaps() {
        Check.sentence("If several exceptions apply, the one that is documented first is thrown: links, maps "
                + "and figures");
        State some = RefusalEdgeTest::some;
        for (int number : new int[] {MIN, -1, 10, MAX}) {
            dueFirst("10: no object, no link", BOUNDS, some, one -> one.isTaken(number));
            dueFirst("11: no section, no link", BOUNDS, some, one -> one.fate(number));
            dueFirst("12: no section, no link", BOUNDS, some, one -> one.address(number));
            dueFirst("14: no reference, no link", BOUNDS, some, one -> one.target(number));
            dueFirst("15: no reference, no link", BOUNDS, some, one -> one.targetAnew(number));
            dueFirst("16: no reference, no link", BOUNDS, some, one -> one.valueOf(number));
            dueFirst("17: no reference, no link", BOUNDS, some, one -> one.hasIsland(number));
        }
        for (int name : new int[] {MIN, -1, 16, MAX}) {
            dueFirst("13: no name, no link", ARGUMENT, some, one -> one.addressOf(name));
        }
        dueFirst("12: no link, does not live", STATE, some, one -> one.address(4));
        dueFirst("13: no link, does not live", STATE, some, one -> one.addressOf(3));
        dueFirst("13: no link, stands for none", STATE, some, one -> one.addressOf(15));
        dueFirst("14: no link, does not live", STATE, some, one -> one.target(3));
        dueFirst("15: no link, does not live", STATE, some, one -> one.targetAnew(3));
        dueFirst("16: no link, is not laid", STATE, some, one -> one.valueOf(3));
        dueFirst("35: no link, no sections", STATE, LinkerYard::new, LinkerYard::laidShare);
        dueFirst("36: no link, none laid", STATE, LinkerYard::new, LinkerYard::meanSize);
        dueFirst("36: no link, sections", STATE, some, LinkerYard::meanSize);
    }

    private static void firstOfLibraries() {
        Check.sentence("If several exceptions apply, the one that is documented first is thrown: libraries");
        State some = RefusalEdgeTest::some;
        for (int library : new int[] {MIN, -1, 5, 8, MAX}) {
            dueFirst("26: no library, name", ELEMENT, some, one -> one.provide(library, 16, 1));
            dueFirst("26: no library, version", ELEMENT, some, one -> one.provide(library, 0, 0));
            dueFirst("27: no library, both the same", ELEMENT, some, one -> one.need(library, library));
            dueFirst("27: no other library, it is loaded", ELEMENT, some, one -> one.need(0, library));
            dueFirst("32: no library, name", ELEMENT, some, one -> one.bind(library, -1, 1));
            dueFirst("32: no library, version", ELEMENT, some, one -> one.bind(library, 0, 10));
        }
        dueFirst("26: name, it is loaded", ARGUMENT, some, one -> one.provide(0, 16, 1));
        dueFirst("26: version, it is loaded", ARGUMENT, some, one -> one.provide(0, 3, 10));
        dueFirst("27: both the same, it is loaded", ARGUMENT, some, one -> one.need(0, 0));
        dueFirst("27: it is loaded, it needs the other one", UNSUPPORTED, some, one -> one.need(0, 1));
        dueFirst("32: name, it is not loaded", ARGUMENT, some, one -> one.bind(4, 16, 1));
        dueFirst("32: version, it is not loaded", ARGUMENT, some, one -> one.bind(4, 3, 0));
        dueFirst("32: name, nobody provides it", ARGUMENT, some, one -> one.bind(3, 16, 9));
        dueFirst("32: it is not loaded, nobody provides it", STATE, some, one -> one.bind(4, 4, 1));
        dueFirst("32: it is not loaded, one that it is provides it alone", STATE, some, one -> one.bind(4, 3, 1));
        dueFirst("29: its count is 0", STATE, some, one -> one.unload(4));
    }

    private static void endOfLink() {
        Check.sentence("When an object, a section, a definition, a common, a reference, a room or the reach is "
                + "told, there is no link any more");
        RefusalEdgeTest told = new RefusalEdgeTest();
        told.refuse("a plain object", "3", one -> one.addObject(false));
        told.refuse("a member", "3", one -> one.addObject(true));
        told.refuse("code", "6", one -> one.addSection(0, true, 1, 1, 0, false));
        told.refuse("data of a member that is not taken", "6", one -> one.addSection(2, false, 1, 1, 0, false));
        told.refuse("a strong definition", "1", one -> one.define(0, 15, 0, 's'));
        told.refuse("a local definition in one that does not live", "1", one -> one.define(4, 15, 0, 'l'));
        told.refuse("a common", "1", one -> one.addCommon(2, 15, 1));
        told.refuse("a call", "7", one -> one.refer(1, 1, 0, 'c'));
        told.refuse("a reference of one that does not live", "7", one -> one.refer(4, 1, 0, 'a'));
        told.refuse("other rooms", "500", one -> one.setRooms(999, 999));
        told.refuse("the same rooms", "500", one -> one.setRooms(500, 400));
        told.refuse("another reach", "80", one -> one.setReach(81));
        told.refuse("the same reach", "80", one -> one.setReach(80));
        for (Refused one : told.refused) {
            LinkerYard yard = someLinked();
            Check.due("before " + one.what, 1, yard::islands);
            Check.due(one.what, one.by, () -> one.call.of(yard));
            Check.dueBadState("islands behind " + one.what, yard::islands);
            Check.dueBadState("a fate behind " + one.what, () -> yard.fate(0));
            Check.dueBadState("a run behind " + one.what, yard::run);
            Check.due("a link behind " + one.what, '-', () -> yard.link(0));
            Check.due("its fate behind " + one.what, 'l', () -> yard.fate(0));
        }
    }

    private static void noEndOfLink() {
        Check.sentence("there is a link until then: what is asked, libraries and the gate do not end it");
        RefusalEdgeTest kept = new RefusalEdgeTest();
        kept.refuse("targets", "true", one -> one.target(0) == one.targetAnew(0));
        kept.refuse("runs", "true", one -> one.run() == one.runPlain());
        kept.refuse("a library", "5", LinkerYard::addLibrary);
        kept.refuse("what it provides", "1", one -> one.provide(4, 3, 2));
        kept.refuse("what it needs", "2", one -> one.need(4, 3));
        kept.refuse("a load", "1", one -> one.load(4));
        kept.refuse("a load and an unload", "2", one -> one.load(4) + one.unload(4));
        kept.refuse("a binding", "2", one -> one.bind(0, 9, 1));
        kept.refuse("the gate", "2", one -> one.tell(false, true));
        for (Refused one : kept.refused) {
            LinkerYard yard = someLinked();
            long sum = yard.checksum();
            int output = yard.run();
            Check.due(one.what, one.by, () -> one.call.of(yard));
            Check.due("the sum behind " + one.what, sum, yard::checksum);
            Check.due("a run behind " + one.what, output, yard::run);
            Check.due("fates behind " + one.what, "llflxx", () -> Build.fates(yard, 6));
        }
    }
}
