/** Promises 25 to 34: libraries, their needs, counts and bindings, and the gate. */
public final class LibraryTest {
    private static final int[] BAD = {-1, 8, Integer.MIN_VALUE, Integer.MAX_VALUE};

    private LibraryTest() {
    }

    public static void main(String[] args) {
        adding();
        refusedLibraries();
        providing();
        needing();
        loadingInOrder();
        loadingLoops();
        loadingWhatStands();
        unloading();
        unloadingOfNeeded();
        binding();
        bindingsOfThoseThatLeave();
        gate();
        Check.end();
    }

    /** Libraries with needs, told as pairs of digits. */
    private static LinkerYard libraries(int all, String... needs) {
        LinkerYard yard = new LinkerYard();
        for (int library = 0; library < all; library++) {
            yard.addLibrary();
        }
        for (String pair : needs) {
            yard.need(pair.charAt(0) - '0', pair.charAt(1) - '0');
        }
        return yard;
    }

    private static String order(LinkerYard yard) {
        StringBuilder text = new StringBuilder();
        for (int place = 0; place < 9; place++) {
            int asked = place;
            String told = Check.told(() -> yard.loadedAt(asked));
            text.append(told.length() == 1 ? told : ".");
        }
        return text.toString().replace(".", "");
    }

    private static String counts(LinkerYard yard, int all) {
        StringBuilder text = new StringBuilder();
        for (int library = 0; library < all; library++) {
            text.append(yard.count(library));
        }
        return text.toString();
    }

    private static void dueState(String what, LinkerYard yard, String order, String counts) {
        Check.due("31: the order, " + what, order, () -> order(yard));
        Check.due("30: the counts, " + what, counts, () -> counts(yard, counts.length()));
    }

    private static void adding() {
        LinkerYard yard = new LinkerYard();
        for (int library = 0; library < 8; library++) {
            Check.due("25: library " + library, library, yard::addLibrary);
        }
        Check.dueBadState("25: a ninth", yard::addLibrary);
        Check.due("30: the last one is there", 0, () -> yard.count(7));
        Check.due("28: the last one can be loaded", 1, () -> yard.load(7));
    }

    private static void refusedLibraries() {
        LinkerYard yard = libraries(8);
        for (int library : BAD) {
            Check.dueNoElement("26: library " + library, () -> yard.provide(library, 16, 0));
            Check.dueNoElement("27: library " + library, () -> yard.need(library, 0));
            Check.dueNoElement("27: other library " + library, () -> yard.need(0, library));
            Check.dueNoElement("27: twice library " + library, () -> yard.need(library, library));
            Check.dueNoElement("28: library " + library, () -> yard.load(library));
            Check.dueNoElement("29: library " + library, () -> yard.unload(library));
            Check.dueNoElement("30: library " + library, () -> yard.count(library));
            Check.dueOutOfBounds("31: place " + library, () -> yard.loadedAt(library));
            Check.dueNoElement("32: library " + library, () -> yard.bind(library, 16, 0));
        }
        LinkerYard one = libraries(1);
        Check.dueNoElement("30: library 1 of 1", () -> one.count(1));
        Check.dueOutOfBounds("31: none is loaded", () -> one.loadedAt(0));
        one.load(0);
        Check.due("31: one is loaded", 0, () -> one.loadedAt(0));
        Check.dueOutOfBounds("31: one alone is loaded", () -> one.loadedAt(1));
        Check.dueOutOfBounds("31: place -1", () -> one.loadedAt(-1));
        Check.dueNoElement("27: no other library, of one that is loaded", () -> one.need(0, 1));
    }

    private static void providing() {
        LinkerYard yard = libraries(2);
        for (int name : new int[] {-1, 16, Integer.MIN_VALUE, Integer.MAX_VALUE}) {
            Check.dueBadArgument("26: name " + name, () -> yard.provide(0, name, 1));
        }
        for (int version : new int[] {0, -1, 10, Integer.MIN_VALUE, Integer.MAX_VALUE}) {
            Check.dueBadArgument("26: version " + version, () -> yard.provide(0, 0, version));
        }
        Check.due("26: the first", 0, () -> yard.provide(0, 15, 9));
        Check.due("26: in place of the first", 9, () -> yard.provide(0, 15, 1));
        Check.due("26: in place of the second", 1, () -> yard.provide(0, 15, 4));
        Check.due("26: another name", 0, () -> yard.provide(0, 0, 2));
        Check.due("26: another library", 0, () -> yard.provide(1, 15, 2));
        yard.load(0);
        Check.dueUnsupported("26: a loaded one", () -> yard.provide(0, 15, 5));
        Check.dueBadArgument("26: the version ahead of that", () -> yard.provide(0, 15, 10));
        Check.due("26: one that is not loaded", 2, () -> yard.provide(1, 15, 3));
        yard.unload(0);
        Check.due("26: an unloaded one, as it was", 4, () -> yard.provide(0, 15, 5));
    }

    private static void needing() {
        LinkerYard yard = libraries(4);
        Check.dueBadArgument("27: itself", () -> yard.need(0, 0));
        Check.due("27: one", 1, () -> yard.need(0, 3));
        Check.due("27: two", 2, () -> yard.need(0, 1));
        Check.dueBadState("27: again", () -> yard.need(0, 3));
        Check.due("27: the other way", 1, () -> yard.need(3, 0));
        Check.due("27: three", 3, () -> yard.need(0, 2));
        yard.load(3);
        Check.dueUnsupported("27: a loaded one", () -> yard.need(3, 1));
        Check.dueUnsupported("27: a loaded one ahead of again", () -> yard.need(0, 1));
        Check.dueBadArgument("27: itself ahead of a loaded one", () -> yard.need(0, 0));
        LinkerYard loaded = libraries(2);
        loaded.load(1);
        Check.due("27: one that is loaded is needed", 1, () -> loaded.need(0, 1));
    }

    private static void loadingInOrder() {
        LinkerYard yard = libraries(6, "04", "02", "25", "21", "41", "31");
        Check.due("28: all that it needs", 5, () -> yard.load(0));
        dueState("by rising numbers", yard, "15240", "121011");
        Check.due("28: one more", 1, () -> yard.load(3));
        dueState("one more", yard, "152403", "131111");
        Check.due("28: one that stands", 0, () -> yard.load(5));
        dueState("one that stands", yard, "152403", "131112");
        LinkerYard chain = libraries(8, "01", "12", "23", "34", "45", "56", "67");
        Check.due("28: a chain of all", 8, () -> chain.load(0));
        dueState("a chain of all", chain, "76543210", "11111111");
        Check.due("29: a chain of all", 8, () -> chain.unload(0));
        dueState("after the chain", chain, "", "00000000");
    }

    private static void loadingLoops() {
        LinkerYard loop = libraries(3, "01", "12", "20");
        Check.due("28: a loop", 3, () -> loop.load(1));
        dueState("a loop", loop, "021", "121");
        Check.due("29: a loop", 0, () -> loop.unload(1));
        dueState("a loop that holds itself", loop, "021", "111");
        Check.due("29: all leave", 3, () -> loop.unload(0));
        dueState("all left", loop, "", "000");
        LinkerYard pair = libraries(3, "01", "10", "12");
        Check.due("28: two that need each other", 3, () -> pair.load(0));
        dueState("two that need each other", pair, "210", "211");
    }

    private static void loadingWhatStands() {
        LinkerYard yard = libraries(3, "01", "02", "12");
        Check.due("28: the needed one first", 1, () -> yard.load(2));
        Check.due("28: the others then", 2, () -> yard.load(0));
        dueState("the needed one first", yard, "210", "113");
        Check.due("29: one that is needed still", 0, () -> yard.unload(2));
        Check.due("29: the others and it", 3, () -> yard.unload(0));
        dueState("all left", yard, "", "000");
    }

    private static void unloading() {
        LinkerYard yard = libraries(4, "01", "21");
        Check.dueBadState("29: one that was never loaded", () -> yard.unload(0));
        yard.load(0);
        yard.load(3);
        yard.load(2);
        yard.load(0);
        dueState("three loads", yard, "1032", "2211");
        Check.due("29: it was loaded twice", 0, () -> yard.unload(0));
        Check.due("29: it leaves, what it needs stays", 1, () -> yard.unload(0));
        dueState("it left", yard, "132", "0111");
        Check.dueBadState("29: once more", () -> yard.unload(0));
        Check.due("28: it is loaded again", 1, () -> yard.load(0));
        dueState("it stands behind", yard, "1320", "1211");
    }

    private static void unloadingOfNeeded() {
        LinkerYard yard = libraries(3, "01", "10", "12");
        yard.load(0);
        dueState("two that need each other", yard, "210", "211");
        Check.due("29: one that is needed", 2, () -> yard.unload(1));
        dueState("one that needs what left", yard, "0", "100");
        Check.due("28: it comes again", 2, () -> yard.load(1));
        dueState("it came again", yard, "021", "211");
        Check.due("29: once", 0, () -> yard.unload(0));
        Check.due("29: twice, counts that are 0 stay so", 3, () -> yard.unload(0));
        dueState("all left", yard, "", "000");
    }

    private static void binding() {
        LinkerYard yard = libraries(5, "10");
        yard.provide(0, 3, 4);
        yard.provide(1, 3, 9);
        yard.provide(2, 3, 9);
        yard.provide(3, 5, 2);
        Check.dueBadState("32: one that is not loaded", () -> yard.bind(1, 3, 1));
        yard.load(2);
        yard.load(1);
        for (int name : new int[] {-1, 16, Integer.MIN_VALUE, Integer.MAX_VALUE}) {
            Check.dueBadArgument("32: name " + name, () -> yard.bind(2, name, 1));
        }
        for (int version : new int[] {0, -1, 10, Integer.MIN_VALUE, Integer.MAX_VALUE}) {
            Check.dueBadArgument("32: version " + version, () -> yard.bind(2, 3, version));
        }
        Check.dueBadArgument("32: the version ahead of one that is not loaded", () -> yard.bind(3, 3, 0));
        Check.dueBadState("32: not loaded ahead of not provided", () -> yard.bind(3, 9, 1));
        Check.due("32: the first in the order, itself", 2, () -> yard.bind(2, 3, 4));
        Check.due("32: another one to it", 2, () -> yard.bind(0, 3, 4));
        Check.due("33: two", 2, yard::bindings);
        Check.due("32: again", 2, () -> yard.bind(0, 3, 4));
        Check.due("33: that is the same one", 2, yard::bindings);
        Check.due("32: in another version", 2, () -> yard.bind(0, 3, 9));
        Check.due("33: that is another one", 3, yard::bindings);
        Check.dueUnsupported("32: a name that one provides that is not loaded", () -> yard.bind(0, 5, 1));
        Check.dueUnsupported("32: a name that nobody provides", () -> yard.bind(0, 6, 1));
        yard.load(3);
        Check.due("32: in its version", 3, () -> yard.bind(0, 5, 2));
        Check.dueUnsupported("32: in a later version", () -> yard.bind(0, 5, 3));
        Check.due("33: what is refused makes none", 4, yard::bindings);
        LinkerYard late = libraries(3);
        late.provide(0, 1, 3);
        late.provide(1, 1, 5);
        late.load(1);
        late.load(2);
        Check.due("32: the one that there is", 1, () -> late.bind(2, 1, 2));
        late.load(0);
        Check.due("32: it is not looked for again", 1, () -> late.bind(2, 1, 2));
        LinkerYard versions = libraries(3);
        versions.provide(0, 1, 3);
        versions.provide(1, 1, 5);
        versions.load(0);
        versions.load(1);
        versions.load(2);
        Check.due("32: the first provides it too early", 1, () -> versions.bind(2, 1, 4));
        Check.due("32: the first provides it", 0, () -> versions.bind(2, 1, 3));
    }

    private static void bindingsOfThoseThatLeave() {
        LinkerYard yard = libraries(4, "01");
        yard.provide(1, 7, 2);
        yard.provide(3, 8, 1);
        yard.load(0);
        yard.load(2);
        yard.load(3);
        yard.bind(2, 7, 1);
        Check.dueUnsupported("29: what it needs would leave", () -> yard.unload(0));
        dueState("nothing was changed by that", yard, "1023", "1111");
        Check.due("33: nothing was changed by that", 1, yard::bindings);
        Check.dueUnsupported("29: it would leave itself", () -> yard.unload(1));
        yard.load(1);
        Check.due("29: what it needs stays", 1, () -> yard.unload(0));
        dueState("what it needs stays", yard, "123", "0111");
        yard.bind(2, 8, 1);
        yard.bind(1, 7, 1);
        yard.bind(1, 8, 1);
        Check.due("33: four", 4, yard::bindings);
        Check.due("29: the one that binds", 1, () -> yard.unload(2));
        Check.due("33: its bindings are gone", 2, yard::bindings);
        Check.due("29: one that is bound to itself", 1, () -> yard.unload(1));
        Check.due("33: all are gone", 0, yard::bindings);
        yard.load(2);
        Check.dueUnsupported("32: the bindings are gone", () -> yard.bind(2, 7, 1));
        for (int name : new int[] {0, 15}) {
            for (int binder : new int[] {0, 7}) {
                LinkerYard ends = libraries(8);
                ends.provide(3, name, 9);
                ends.load(binder);
                ends.load(3);
                ends.bind(binder, name, 9);
                Check.dueUnsupported("29: " + binder + " has a binding of name " + name, () -> ends.unload(3));
                ends.unload(binder);
                Check.due("29: " + binder + " has left", 1, () -> ends.unload(3));
            }
        }
        LinkerYard both = libraries(3, "01", "10");
        both.provide(1, 7, 2);
        both.provide(2, 7, 1);
        both.load(0);
        both.bind(0, 7, 1);
        both.bind(1, 7, 2);
        both.unload(0);
        Check.due("29: both sides of a binding leave", 2, () -> both.unload(0));
        Check.due("33: both sides of a binding leave", 0, both::bindings);
        both.load(2);
        both.load(0);
        Check.due("32: it is looked for anew", 2, () -> both.bind(0, 7, 1));
    }

    private static void gate() {
        LinkerYard yard = new LinkerYard();
        Check.due("34: held, all", 0, () -> yard.tell(true, true));
        Check.due("34: held, one", 0, () -> yard.tell(true, false));
        Check.due("34: not held, one", 1, () -> yard.tell(false, false));
        Check.due("34: not held, all", 2, () -> yard.tell(false, true));
        Check.due("34: held again", 2, () -> yard.tell(true, true));
        LinkerYard other = new LinkerYard();
        Check.due("34: another gate", 1, () -> other.tell(false, true));
    }
}
