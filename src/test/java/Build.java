/** Yards for tests, and answers of several calls in one text. */
final class Build {
    private Build() {
    }

    /** A yard with objects, 'p' for a plain one and 'm' for a member. */
    static LinkerYard objects(String kinds) {
        LinkerYard yard = new LinkerYard();
        for (int place = 0; place < kinds.length(); place++) {
            yard.addObject(kinds.charAt(place) == 'm');
        }
        return yard;
    }

    /** Code with an alignment of 1 that is not kept. */
    static int code(LinkerYard yard, int object, int size, int content) {
        return yard.addSection(object, true, size, 1, content, false);
    }

    /** Code with an alignment of 1 that is kept. */
    static int keptCode(LinkerYard yard, int object, int size, int content) {
        return yard.addSection(object, true, size, 1, content, true);
    }

    /** Data with an alignment of 1 that are not kept. */
    static int data(LinkerYard yard, int object, int size) {
        return yard.addSection(object, false, size, 1, 0, false);
    }

    /** Data with an alignment of 1 that are kept. */
    static int keptData(LinkerYard yard, int object, int size) {
        return yard.addSection(object, false, size, 1, 0, true);
    }

    /** The fates of the first sections. */
    static String fates(LinkerYard yard, int sections) {
        StringBuilder text = new StringBuilder();
        for (int section = 0; section < sections; section++) {
            text.append(yard.fate(section));
        }
        return text.toString();
    }

    /** Which of the first objects are taken. */
    static String taken(LinkerYard yard, int objects) {
        StringBuilder text = new StringBuilder();
        for (int object = 0; object < objects; object++) {
            text.append(yard.isTaken(object) ? 't' : '.');
        }
        return text.toString();
    }

    /** Libraries with needs, told as pairs of digits. */
    static LinkerYard libraries(int all, String... needs) {
        LinkerYard yard = new LinkerYard();
        for (int library = 0; library < all; library++) {
            yard.addLibrary();
        }
        for (String pair : needs) {
            yard.need(pair.charAt(0) - '0', pair.charAt(1) - '0');
        }
        return yard;
    }

    /** The libraries that are loaded, in their order. */
    static String order(LinkerYard yard) {
        StringBuilder text = new StringBuilder();
        for (int place = 0; place < 9; place++) {
            int asked = place;
            String told = Check.told(() -> yard.loadedAt(asked));
            text.append(told.length() == 1 ? told : "");
        }
        return text.toString();
    }

    /** The counts of the first libraries. */
    static String counts(LinkerYard yard, int all) {
        StringBuilder text = new StringBuilder();
        for (int library = 0; library < all; library++) {
            text.append(text.length() == 0 ? "" : " ").append(yard.count(library));
        }
        return text.toString();
    }
}
