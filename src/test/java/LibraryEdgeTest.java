/** The sentences about libraries, bindings and the gate that name a boundary: their terms, promises 25 to 34. */
public final class LibraryEdgeTest {
    private static final int MIN = Integer.MIN_VALUE;
    private static final int MAX = Integer.MAX_VALUE;
    private static final int[] NUMBERS = {MIN, -8, -1, 0, 1, 6, 7, 8, 9, 16, MAX};

    private LibraryEdgeTest() {
    }

    public static void main(String[] args) {
        librariesInAll();
        librariesThere();
        versionsProvided();
        namesProvided();
        versionBefore();
        providingLoaded();
        needsOfLibrary();
        needsItself();
        needsTwice();
        needsOfLoaded();
        countsAtFirst();
        countsUp();
        putIfNotStanding();
        putByRisingNumbers();
        putNotTwice();
        putInCircles();
        countsOfNeeded();
        deepestLoad();
        places();
        loweredCounts();
        leavesAtZero();
        leavesWithNeeded();
        countsThatAreZero();
        unloadOfNone();
        boundVersions();
        boundNames();
        boundToFirst();
        boundToItself();
        boundToLoadedOnly();
        keptBindings();
        bindingsGone();
        manyBindings();
        refusedUnload();
        allowedUnload();
        gate();
        lastCall();
        Check.end();
    }

    private static boolean isBetween(int number, int least, int most) {
        return number >= least && number <= most;
    }

    private static void dueState(String what, LinkerYard yard, String order, String counts) {
        Check.due("order: " + what, order, () -> Build.order(yard));
        Check.due("counts: " + what, counts, () -> Build.counts(yard, counts.split(" ").length));
    }

    private static void librariesInAll() {
        Check.sentence("At most 8 libraries exist, numbered from 0");
        LinkerYard yard = new LinkerYard();
        for (int library = 0; library < 8; library++) {
            int number = library;
            Check.dueNoElement("library " + number + " is not there yet", () -> yard.count(number));
            Check.due("library " + number, number, yard::addLibrary);
            Check.due("it is there", 0, () -> yard.count(number));
        }
        Check.dueBadState("a ninth", yard::addLibrary);
        Check.dueBadState("a ninth once more", yard::addLibrary);
        Check.dueNoElement("it is not there", () -> yard.count(8));
    }

    private static void librariesThere() {
        Check.sentence("26 to 30, 32: NoSuchElementException if there is no such library");
        for (int libraries : new int[] {0, 1, 2, 8}) {
            for (int library : NUMBERS) {
                boolean isThere = isBetween(library, 0, libraries - 1);
                String wrong = "throws NoSuchElementException";
                String what = ", library " + library + " of " + libraries;
                LinkerYard yard = Build.libraries(libraries);
                Check.due("count" + what, isThere ? 0 : wrong, () -> yard.count(library));
                Check.due("provide" + what, isThere ? 0 : wrong, () -> yard.provide(library, 3, 4));
                if (libraries > 1) {
                    int other = library == 0 ? 1 : 0;
                    Check.due("need" + what, isThere ? 1 : wrong, () -> yard.need(library, other));
                    Check.due("need of the other one" + what, isThere ? 1 : wrong, () -> yard.need(other, library));
                }
                Check.due("unload" + what, isThere ? "throws IllegalStateException" : wrong,
                        () -> yard.unload(library));
                LinkerYard apart = Build.libraries(libraries);
                Check.due("load" + what, isThere ? 1 : wrong, () -> apart.load(library));
                Check.due("bind" + what, isThere ? "throws UnsupportedOperationException" : wrong,
                        () -> apart.bind(library, 3, 4));
                Check.due("unload" + what + ", loaded", isThere ? 1 : wrong, () -> apart.unload(library));
            }
        }
    }

    private static void versionsProvided() {
        Check.sentence("A library provides names, each in a version from 1 to 9");
        for (int version : new int[] {MIN, -9, -1, 0, 1, 2, 8, 9, 10, 11, 65537, MAX}) {
            LinkerYard yard = Build.libraries(1);
            boolean isAllowed = isBetween(version, 1, 9);
            Check.due("version " + version, isAllowed ? 0 : "throws IllegalArgumentException",
                    () -> yard.provide(0, 0, version));
            Check.due("the version then, " + version, isAllowed ? version : 0, () -> yard.provide(0, 0, 5));
        }
    }

    private static void namesProvided() {
        Check.sentence("There are the names 0 to 15, for libraries");
        LinkerYard yard = Build.libraries(8);
        for (int library = 0; library < 8; library++) {
            for (int name : new int[] {MIN, -16, -1, 0, 1, 14, 15, 16, 17, 32, MAX}) {
                int one = library;
                Check.due("name " + name + " of " + library, isBetween(name, 0,
                        15) ? 0 : "throws IllegalArgumentException",
                        () -> yard.provide(one, name, 1 + one));
            }
        }
        for (int library = 0; library < 8; library++) {
            int one = library;
            Check.due("the last name of " + library, 1 + one, () -> yard.provide(one, 15, 9));
            Check.due("the first name of " + library, 1 + one, () -> yard.provide(one, 0, 9));
        }
    }

    private static void versionBefore() {
        Check.sentence("26: in place of the version before; Returns the version before, or 0");
        LinkerYard yard = Build.libraries(2);
        Check.due("none before", 0, () -> yard.provide(0, 3, 9));
        Check.due("a lower one in place of it", 9, () -> yard.provide(0, 3, 2));
        Check.due("the same again", 2, () -> yard.provide(0, 3, 2));
        Check.due("none of the other library", 0, () -> yard.provide(1, 3, 1));
        yard.load(0);
        Check.dueUnsupported("the one before is not provided any more", () -> yard.bind(0, 3, 3));
        Check.due("the one that is", 0, () -> yard.bind(0, 3, 2));
    }

    private static void providingLoaded() {
        Check.sentence("26: UnsupportedOperationException if the library is loaded");
        LinkerYard yard = Build.libraries(3, "01");
        yard.load(0);
        Check.dueUnsupported("one that was loaded", () -> yard.provide(0, 3, 1));
        Check.dueUnsupported("one that was put", () -> yard.provide(1, 3, 1));
        Check.due("one that does not stand", 0, () -> yard.provide(2, 3, 1));
        yard.load(0);
        yard.unload(0);
        Check.dueUnsupported("one that still stands", () -> yard.provide(0, 3, 1));
        yard.unload(0);
        Check.due("one that left", 0, () -> yard.provide(0, 3, 1));
        Check.due("one that left with it", 0, () -> yard.provide(1, 3, 1));
    }

    private static void needsOfLibrary() {
        Check.sentence("27: Returns how many libraries it needs");
        for (int library : new int[] {0, 3, 7}) {
            LinkerYard yard = Build.libraries(8);
            int found = 0;
            for (int number = 7; number >= 0; number--) {
                int other = number;
                if (other != library) {
                    found++;
                    Check.due(library + " needs " + other, found, () -> yard.need(library, other));
                }
            }
            Check.due("the other way", 1, () -> yard.need(library == 0 ? 7 : 0, library));
        }
    }

    private static void needsItself() {
        Check.sentence("27: IllegalArgumentException if both are the same");
        LinkerYard yard = Build.libraries(8);
        for (int library : new int[] {0, 1, 7}) {
            Check.dueBadArgument("library " + library, () -> yard.need(library, library));
        }
        Check.dueNoElement("one that is not there", () -> yard.need(8, 8));
    }

    private static void needsTwice() {
        Check.sentence("27: IllegalStateException if it needs the other one");
        LinkerYard yard = Build.libraries(8);
        for (int other : new int[] {1, 7}) {
            yard.need(0, other);
            Check.dueBadState("again " + other, () -> yard.need(0, other));
            Check.due("the other way", 1, () -> yard.need(other, 0));
        }
        Check.due("a third one", 3, () -> yard.need(0, 2));
    }

    private static void needsOfLoaded() {
        Check.sentence("27: UnsupportedOperationException if the library is loaded");
        LinkerYard yard = Build.libraries(4, "01");
        yard.load(0);
        Check.dueUnsupported("one that was loaded", () -> yard.need(0, 2));
        Check.dueUnsupported("one that was put", () -> yard.need(1, 2));
        Check.due("the other one may be loaded", 1, () -> yard.need(2, 0));
        yard.unload(0);
        Check.due("one that left", 2, () -> yard.need(0, 2));
        Check.due("one that left with it", 1, () -> yard.need(1, 2));
    }

    private static void countsAtFirst() {
        Check.sentence("a library has a count, 0 at first");
        LinkerYard yard = Build.libraries(8, "01", "70");
        yard.provide(0, 0, 1);
        Check.due("all", "0 0 0 0 0 0 0 0", () -> Build.counts(yard, 8));
    }

    private static void countsUp() {
        Check.sentence("and then its count increases by 1");
        LinkerYard yard = Build.libraries(2, "01");
        for (int times = 1; times <= 3; times++) {
            yard.load(0);
            Check.due("loaded " + times + " times", times + " 1", () -> Build.counts(yard, 2));
        }
        yard.load(1);
        Check.due("the needed one too", "3 2", () -> Build.counts(yard, 2));
    }

    private static void putIfNotStanding() {
        Check.sentence("To load a library, it is put, if it does not stand yet");
        LinkerYard yard = Build.libraries(3, "01");
        Check.due("two stand by this", 2, () -> yard.load(0));
        Check.due("it stands", 0, () -> yard.load(0));
        Check.due("the other one stands", 0, () -> yard.load(1));
        Check.due("the third one does not", 1, () -> yard.load(2));
        dueState("each once", yard, "102", "2 2 1");
        LinkerYard alone = Build.libraries(2, "01");
        alone.load(0);
        Check.due("what it needs leaves", 1, () -> alone.unload(1));
        Check.due("it stands, so nothing is put", 0, () -> alone.load(0));
        dueState("what it needs is not put again", alone, "0", "2 0");
        Check.due("unless it is loaded itself", 1, () -> alone.load(1));
        dueState("that was loaded once", alone, "01", "2 1");
        alone.unload(0);
        Check.due("then it leaves with the one that needs it", 2, () -> alone.unload(0));
        dueState("none stays", alone, "", "0 0");
    }

    private static void putByRisingNumbers() {
        Check.sentence("first each library that it needs is put, by rising numbers; then it stands behind all "
                + "that stand");
        LinkerYard first = Build.libraries(8, "07", "06", "05", "04", "03", "02", "01");
        Check.due("0 needs all others", 8, () -> first.load(0));
        dueState("0 needs all others", first, "12345670", "1 1 1 1 1 1 1 1");
        LinkerYard last = Build.libraries(8, "76", "75", "74", "73", "72", "71", "70");
        Check.due("7 needs all others", 8, () -> last.load(7));
        dueState("7 needs all others", last, "01234567", "1 1 1 1 1 1 1 1");
        LinkerYard deep = Build.libraries(7, "03", "05", "36", "31", "54", "52");
        deep.load(0);
        dueState("those that need others", deep, "1632450", "1 1 1 1 1 1 1");
        deep.unload(0);
        deep.load(5);
        deep.load(3);
        deep.load(0);
        dueState("in another order", deep, "2451630", "1 1 1 2 1 2 1");
    }

    private static void putNotTwice() {
        Check.sentence("if it does not stand yet");
        LinkerYard yard = Build.libraries(4, "01", "02", "13", "23");
        Check.due("two need the same one", 4, () -> yard.load(0));
        dueState("two need the same one", yard, "3120", "1 1 1 2");
        LinkerYard standing = Build.libraries(3, "01", "02");
        standing.load(2);
        Check.due("one of two stands", 2, () -> standing.load(0));
        dueState("one of two stands", standing, "210", "1 1 2");
        LinkerYard all = Build.libraries(3, "01", "02");
        all.load(2);
        all.load(1);
        Check.due("both stand", 1, () -> all.load(0));
        dueState("both stand", all, "210", "1 2 2");
    }

    private static void putInCircles() {
        Check.sentence("and is not being put already");
        LinkerYard pair = Build.libraries(2, "01", "10");
        Check.due("two that need each other", 2, () -> pair.load(0));
        dueState("two that need each other", pair, "10", "2 1");
        LinkerYard other = Build.libraries(2, "01", "10");
        Check.due("from the other one", 2, () -> other.load(1));
        dueState("from the other one", other, "01", "1 2");
        LinkerYard circle = Build.libraries(8, "01", "12", "23", "34", "45", "56", "67", "70");
        Check.due("a circle of 8", 8, () -> circle.load(3));
        dueState("a circle of 8", circle, "21076543", "1 1 1 2 1 1 1 1");
        LinkerYard twice = Build.libraries(4, "01", "12", "10", "20", "23", "03");
        twice.load(0);
        dueState("a circle beside others", twice, "3210", "3 1 1 2");
        LinkerYard later = Build.libraries(3, "01", "10", "20");
        later.load(2);
        dueState("a circle behind one", later, "102", "2 1 1");
        later.unload(2);
        later.unload(0);
        dueState("all left", later, "", "0 0 0");
        later.load(1);
        dueState("what was being put is forgotten", later, "01", "1 2 0");
    }

    private static LinkerYard everyNeed() {
        LinkerYard yard = Build.libraries(8);
        for (int library = 0; library < 8; library++) {
            for (int other = 0; other < 8; other++) {
                if (library != other) {
                    yard.need(library, other);
                }
            }
        }
        return yard;
    }

    private static void countsOfNeeded() {
        Check.sentence("and the counts of all that it needs increase by 1");
        LinkerYard yard = everyNeed();
        Check.due("each needs all others", 8, () -> yard.load(0));
        dueState("each needs all others", yard, "76543210", "8 7 7 7 7 7 7 7");
        for (int times = 0; times < 7; times++) {
            Check.due("unloaded " + times + " times before", 0, () -> yard.unload(0));
        }
        dueState("once more is to come", yard, "76543210", "1 7 7 7 7 7 7 7");
        Check.due("then it leaves", 1, () -> yard.unload(0));
        dueState("then it left", yard, "7654321", "0 6 6 6 6 6 6 6");
        Check.due("and comes again", 1, () -> yard.load(0));
        dueState("it came again", yard, "76543210", "1 7 7 7 7 7 7 7");
    }

    private static void deepestLoad() {
        Check.sentence("as many libraries as there may be, each of which needs the next");
        LinkerYard rising = Build.libraries(8, "01", "12", "23", "34", "45", "56", "67");
        Check.due("by rising numbers", 8, () -> rising.load(0));
        dueState("by rising numbers", rising, "76543210", "1 1 1 1 1 1 1 1");
        Check.due("all leave", 8, () -> rising.unload(0));
        dueState("all left", rising, "", "0 0 0 0 0 0 0 0");
        LinkerYard falling = Build.libraries(8, "76", "65", "54", "43", "32", "21", "10");
        Check.due("by falling numbers", 8, () -> falling.load(7));
        dueState("by falling numbers", falling, "01234567", "1 1 1 1 1 1 1 1");
        falling.load(3);
        Check.due("four leave", 4, () -> falling.unload(7));
        dueState("four left", falling, "0123", "1 1 1 1 0 0 0 0");
    }

    private static void places() {
        Check.sentence("31: the place, from 0; IndexOutOfBoundsException if there is no such place");
        for (int loaded : new int[] {0, 1, 2, 7, 8}) {
            LinkerYard yard = Build.libraries(8);
            for (int number = 0; number < loaded; number++) {
                yard.load(7 - number);
            }
            for (int place : new int[] {MIN, -1, 0, 1, 2, 6, 7, 8, 9, MAX}) {
                Check.due("place " + place + " of " + loaded,
                        isBetween(place, 0, loaded - 1) ? 7 - place : "throws IndexOutOfBoundsException",
                        () -> yard.loadedAt(place));
            }
        }
        LinkerYard left = Build.libraries(3);
        left.load(0);
        left.load(1);
        left.load(2);
        left.unload(1);
        Check.due("behind one that left", 2, () -> left.loadedAt(1));
        Check.dueOutOfBounds("where the last one stood", () -> left.loadedAt(2));
    }

    private static void loweredCounts() {
        Check.sentence("To unload a library, its count decreases by 1");
        LinkerYard yard = Build.libraries(2, "01");
        yard.load(0);
        yard.load(0);
        yard.load(1);
        Check.due("none leaves", 0, () -> yard.unload(0));
        dueState("by one", yard, "10", "1 2");
        Check.due("none leaves again", 0, () -> yard.unload(1));
        dueState("by one again", yard, "10", "1 1");
    }

    private static void leavesAtZero() {
        Check.sentence("A library whose count becomes 0 by this leaves: it does not stand any more");
        for (int gone = 0; gone < 3; gone++) {
            LinkerYard yard = Build.libraries(3);
            for (int library = 0; library < 3; library++) {
                yard.load(library);
            }
            yard.load(gone);
            int one = gone;
            Check.due("its count becomes 1", 0, () -> yard.unload(one));
            Check.due("it stands", "012", () -> Build.order(yard));
            Check.due("its count becomes 0", 1, () -> yard.unload(one));
            Check.due("it does not stand", "012".replace("" + gone, ""), () -> Build.order(yard));
            Check.due("its count", 0, () -> yard.count(one));
        }
    }

    private static void leavesWithNeeded() {
        Check.sentence("the counts of those that it needs decrease by 1; each of these leaves at once if its "
                + "count becomes 0");
        LinkerYard yard = Build.libraries(8, "01", "02", "03", "14", "25", "36", "67", "57");
        yard.load(0);
        yard.load(5);
        dueState("all of them", yard, "41752630", "1 1 1 1 1 2 1 2");
        Check.due("all but two leave", 6, () -> yard.unload(0));
        dueState("5 and what it needs stay", yard, "75", "0 0 0 0 0 1 0 1");
        Check.due("then these leave", 2, () -> yard.unload(5));
        dueState("none stays", yard, "", "0 0 0 0 0 0 0 0");
        LinkerYard needed = Build.libraries(3, "01", "21");
        needed.load(0);
        needed.load(2);
        Check.due("what another one needs stays", 1, () -> needed.unload(0));
        dueState("what another one needs stays", needed, "12", "0 1 1");
        LinkerYard most = Build.libraries(8, "01", "02", "03", "04", "05", "06", "07");
        most.load(0);
        Check.due("as many as there may be", 8, () -> most.unload(0));
    }

    private static void countsThatAreZero() {
        Check.sentence("unless they are 0 already");
        LinkerYard pair = Build.libraries(2, "01", "10");
        pair.load(0);
        Check.due("the needed one leaves first", 1, () -> pair.unload(1));
        dueState("one stands that needs what left", pair, "0", "1 0");
        Check.due("that one leaves", 1, () -> pair.unload(0));
        dueState("both left", pair, "", "0 0");
        Check.due("both come again", 2, () -> pair.load(1));
        dueState("both came again", pair, "01", "1 2");
        LinkerYard circle = Build.libraries(2, "01", "10");
        circle.load(0);
        circle.unload(0);
        dueState("they hold each other", circle, "10", "1 1");
        Check.due("both leave", 2, () -> circle.unload(0));
        dueState("each once", circle, "", "0 0");
        LinkerYard chain = Build.libraries(3, "01", "12");
        chain.load(0);
        Check.due("two leave of three", 2, () -> chain.unload(1));
        dueState("two left", chain, "0", "1 0 0");
        Check.due("the last one", 1, () -> chain.unload(0));
        dueState("none is below 0", chain, "", "0 0 0");
    }

    private static void unloadOfNone() {
        Check.sentence("29: IllegalStateException if its count is 0");
        LinkerYard yard = Build.libraries(8, "01");
        for (int library : new int[] {0, 1, 7}) {
            Check.dueBadState("never loaded, " + library, () -> yard.unload(library));
        }
        yard.load(0);
        yard.unload(0);
        Check.dueBadState("it left", () -> yard.unload(0));
        Check.dueBadState("it left with another one", () -> yard.unload(1));
    }

    private static void boundVersions() {
        Check.sentence("that provides the name in this version or a later one");
        for (int provided = 1; provided <= 9; provided++) {
            for (int version : new int[] {MIN, -1, 0, 1, 2, 3, 4, 5, 6, 7, 8, 9, 10, MAX}) {
                LinkerYard yard = Build.libraries(2);
                yard.provide(0, 3, provided);
                yard.load(0);
                yard.load(1);
                Object due = !isBetween(version, 1, 9) ? "throws IllegalArgumentException"
                        : version <= provided ? 0 : "throws UnsupportedOperationException";
                Check.due("version " + version + " of one in " + provided, due, () -> yard.bind(1, 3, version));
                Check.due("bindings", due.equals(0) ? 1 : 0, yard::bindings);
            }
        }
    }

    private static void boundNames() {
        Check.sentence("32: the name, 0 to 15");
        for (int name : new int[] {MIN, -16, -1, 0, 1, 14, 15, 16, 17, 32, MAX}) {
            LinkerYard yard = Build.libraries(1);
            for (int provided = 0; provided < 16; provided++) {
                yard.provide(0, provided, 9);
            }
            yard.load(0);
            Check.due("name " + name, isBetween(name, 0, 15) ? 0 : "throws IllegalArgumentException",
                    () -> yard.bind(0, name, 9));
        }
        LinkerYard other = Build.libraries(1);
        other.provide(0, 4, 9);
        other.load(0);
        Check.dueUnsupported("a name below", () -> other.bind(0, 3, 1));
        Check.dueUnsupported("a name above", () -> other.bind(0, 5, 1));
    }

    private static void boundToFirst() {
        Check.sentence("to the first library, of those that are loaded, in their order");
        int[][] orders = {{0, 1, 2, 7}, {7, 2, 1, 0}, {2, 7, 0, 1}};
        for (int[] order : orders) {
            LinkerYard yard = Build.libraries(8);
            for (int library : order) {
                yard.provide(library, 3, 5);
                yard.load(library);
            }
            yard.load(4);
            Check.due("the first of those that provide it", order[0], () -> yard.bind(4, 3, 5));
        }
        LinkerYard versions = Build.libraries(8);
        for (int library = 0; library < 8; library++) {
            versions.provide(library, 3, library + 1);
            versions.load(library);
        }
        for (int version = 1; version <= 8; version++) {
            int asked = version;
            Check.due("the first in version " + version, version - 1, () -> versions.bind(0, 3, asked));
        }
        Check.dueUnsupported("none in version 9", () -> versions.bind(0, 3, 9));
        LinkerYard again = Build.libraries(3);
        for (int library = 0; library < 3; library++) {
            again.provide(library, 3, 5);
            again.load(library);
        }
        again.unload(0);
        again.load(0);
        Check.due("one that came again stands last", 1, () -> again.bind(0, 3, 5));
    }

    private static void boundToItself() {
        Check.sentence("which can be itself");
        LinkerYard yard = Build.libraries(2);
        yard.provide(0, 3, 5);
        yard.provide(1, 3, 6);
        yard.load(0);
        yard.load(1);
        Check.due("itself, the first", 0, () -> yard.bind(0, 3, 5));
        Check.due("not itself, though it provides it", 0, () -> yard.bind(1, 3, 5));
        Check.due("itself, the last", 1, () -> yard.bind(1, 3, 6));
        Check.due("bindings", 3, yard::bindings);
    }

    private static void boundToLoadedOnly() {
        Check.sentence("A loaded library binds, to one of those that are loaded");
        LinkerYard yard = Build.libraries(3);
        yard.provide(0, 3, 5);
        yard.provide(1, 3, 5);
        Check.dueBadState("none is loaded", () -> yard.bind(0, 3, 5));
        yard.load(2);
        Check.dueBadState("it is not loaded itself", () -> yard.bind(0, 3, 5));
        Check.dueUnsupported("none that provides it is loaded", () -> yard.bind(2, 3, 5));
        yard.load(1);
        Check.due("one of them is", 1, () -> yard.bind(2, 3, 5));
        yard.unload(2);
        Check.dueBadState("it left", () -> yard.bind(2, 3, 5));
    }

    private static void keptBindings() {
        Check.sentence("the binding is kept; A binding that is there is not looked for again");
        LinkerYard yard = Build.libraries(3);
        yard.provide(0, 3, 9);
        yard.provide(1, 3, 5);
        yard.load(1);
        yard.load(2);
        Check.due("at first", 1, () -> yard.bind(2, 3, 5));
        yard.load(0);
        Check.due("again", 1, () -> yard.bind(2, 3, 5));
        Check.due("it is the same binding", 1, yard::bindings);
        yard.load(2);
        yard.unload(2);
        yard.load(1);
        yard.unload(1);
        Check.due("its sides were unloaded, but did not leave", 1, yard::bindings);
    }

    private static void bindingsGone() {
        Check.sentence("until one of both leaves");
        for (int binder : new int[] {0, 7}) {
            LinkerYard yard = Build.libraries(8);
            yard.provide(3, 0, 9);
            yard.provide(3, 15, 9);
            yard.load(3);
            yard.load(binder);
            for (int version = 1; version <= 9; version++) {
                yard.bind(binder, 0, version);
                yard.bind(binder, 15, version);
                yard.bind(3, 15, version);
            }
            Check.due("bindings of two", 27, yard::bindings);
            Check.due("the one that binds leaves", 1, () -> yard.unload(binder));
            Check.due("its bindings are gone, the others are not", 9, yard::bindings);
            yard.load(binder);
            Check.due("they do not come again with it", 9, yard::bindings);
            yard.unload(3);
            Check.due("the other one leaves", 0, yard::bindings);
            Check.dueUnsupported("then there is none to bind to", () -> yard.bind(binder, 0, 1));
        }
    }

    private static void manyBindings() {
        Check.sentence("A binding is one of a library, a name and a version");
        LinkerYard yard = Build.libraries(8);
        int made = 0;
        for (int name : new int[] {0, 1, 15}) {
            yard.provide(5, name, 9);
        }
        for (int library = 0; library < 8; library++) {
            yard.load(library);
        }
        for (int library = 0; library < 8; library++) {
            for (int name : new int[] {0, 1, 15}) {
                for (int version = 1; version <= 9; version += 4) {
                    int binder = library;
                    int bound = version;
                    made++;
                    Check.due("library " + library + ", name " + name + ", version " + version, 5,
                            () -> yard.bind(binder, name, bound));
                    Check.due("bindings", made, yard::bindings);
                }
            }
        }
        Check.due("one that is there", 5, () -> yard.bind(7, 15, 9));
        Check.due("is none more", made, yard::bindings);
        LinkerYard many = Build.libraries(8);
        for (int name = 0; name < 16; name++) {
            many.provide(name % 8, name, 9);
            many.provide((name + 3) % 8, name, 1);
        }
        for (int library = 7; library >= 0; library--) {
            many.load(library);
        }
        for (int round = 0; round < 2; round++) {
            for (int library = 0; library < 8; library++) {
                for (int name = 0; name < 16; name++) {
                    int binder = library;
                    int bound = name;
                    int lasting = Math.max(name % 8, (name + 3) % 8);
                    int due = (library + name) % 2 == 0 ? name % 8 : lasting;
                    int version = (library + name) % 2 == 0 ? 9 : 1;
                    Check.due("library " + library + ", name " + name + ", version " + version, due,
                            () -> many.bind(binder, bound, version));
                }
            }
            Check.due("bindings of all libraries and names", 128, many::bindings);
        }
    }

    private static void refusedUnload() {
        Check.sentence("A library cannot be unloaded if by this another one would leave, or it itself, to which "
                + "one that stays has a binding");
        for (int binder : new int[] {0, 7}) {
            for (int name : new int[] {0, 15}) {
                for (int version : new int[] {1, 9}) {
                    LinkerYard yard = Build.libraries(8, "34", "45");
                    yard.provide(3, name, 9);
                    yard.load(3);
                    yard.load(binder);
                    yard.bind(binder, name, version);
                    Check.dueUnsupported("it itself, bound to by " + binder, () -> yard.unload(3));
                    LinkerYard other = Build.libraries(8, "34", "45");
                    other.provide(5, name, 9);
                    other.load(3);
                    other.load(binder);
                    other.bind(binder, name, version);
                    Check.dueUnsupported("another one behind a third, bound to by " + binder, () -> other.unload(3));
                    Check.due("counts", "1 1 1", () -> other.count(3) + " " + other.count(4) + " " + other.count(5));
                    Check.dueUnsupported("the third one", () -> other.unload(4));
                    Check.dueUnsupported("the other one itself", () -> other.unload(5));
                    other.load(5);
                    Check.due("the other one would not leave any more", 2, () -> other.unload(3));
                    Check.dueUnsupported("now it would", () -> other.unload(5));
                }
            }
        }
        LinkerYard many = Build.libraries(3);
        many.provide(0, 3, 9);
        many.provide(2, 4, 9);
        many.load(0);
        many.load(1);
        many.load(2);
        many.bind(1, 4, 1);
        many.bind(0, 3, 1);
        Check.due("only bound to by itself", 1, () -> many.unload(0));
        Check.dueUnsupported("bound to by one that stays", () -> many.unload(2));
    }

    private static void allowedUnload() {
        Check.sentence("one that stays: a binding of one that leaves does not count, nor one to one that stays");
        LinkerYard yard = Build.libraries(3, "01");
        yard.provide(1, 3, 9);
        yard.provide(2, 4, 9);
        yard.load(0);
        yard.load(2);
        yard.bind(0, 3, 1);
        yard.bind(1, 3, 2);
        yard.bind(0, 4, 1);
        Check.dueUnsupported("the needed one alone", () -> yard.unload(1));
        Check.due("both, with their bindings", 2, () -> yard.unload(0));
        Check.due("bindings", 0, yard::bindings);
        LinkerYard twice = Build.libraries(2);
        twice.provide(0, 3, 9);
        twice.load(0);
        twice.load(0);
        twice.load(1);
        twice.bind(1, 3, 1);
        Check.due("it would not leave", 0, () -> twice.unload(0));
        Check.dueUnsupported("now it would", () -> twice.unload(0));
        Check.due("the one that binds", 1, () -> twice.unload(1));
        Check.due("then nobody is bound to it", 1, () -> twice.unload(0));
    }

    private static void gate() {
        Check.sentence("Whoever holds it can tell one or all of those that wait; whoever does not is refused");
        LinkerYard yard = new LinkerYard();
        int refused = 0;
        for (int number = 0; number < 512; number++) {
            boolean isHeld = number % 5 == 0;
            boolean isAll = number % 2 == 0;
            refused += isHeld ? 0 : 1;
            Check.due("call " + number, refused, () -> yard.tell(isHeld, isAll));
        }
        LinkerYard all = new LinkerYard();
        for (int number = 1; number <= 512; number++) {
            Check.due("refused each time", number, () -> all.tell(false, false));
        }
        LinkerYard none = Build.libraries(1);
        none.provide(0, 0, 1);
        none.load(0);
        none.bind(0, 0, 1);
        Check.due("held", 0, () -> none.tell(true, true));
        Check.due("the bindings stay", 1, none::bindings);
        Check.due("refused", 1, () -> none.tell(false, true));
        Check.due("the bindings stay still", 1, none::bindings);
    }

    private static void lastCall() {
        Check.sentence("An object is used for at most 512 calls after it has been made");
        LinkerYard yard = Build.libraries(2, "01");
        for (int times = 0; times < 254; times++) {
            yard.load(0);
            yard.load(1);
        }
        Check.due("the last call", 255, () -> yard.count(1));
        LinkerYard up = Build.libraries(1);
        for (int times = 1; times <= 255; times++) {
            int stood = times == 1 ? 1 : 0;
            Check.due("load " + times, stood, () -> up.load(0));
        }
        for (int times = 1; times <= 255; times++) {
            int left = times == 255 ? 1 : 0;
            Check.due("unload " + times, left, () -> up.unload(0));
        }
        Check.due("the 512th call", 0, () -> up.count(0));
    }
}
