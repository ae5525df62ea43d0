import java.util.Arrays;
import java.util.NoSuchElementException;

/** A yard for a linker and a loader: inputs, links with their maps and runs, and libraries. */
public final class LinkerYard {
    private static final int NONE = -1;
    private static final int MOST_OBJECTS = 10;
    private static final int MOST_SECTIONS = 24;
    private static final int MOST_DEFINITIONS = 40;
    private static final int MOST_COMMONS = 160;
    private static final int MOST_REFERENCES = 40;
    private static final int MOST_IN_SECTION = 4;
    private static final int MOST_LIBRARIES = 8;
    private static final int NAMES = 16;
    private static final int MOST_SIZE = 64;
    private static final int MOST_CONTENT = 999;
    private static final int MOST_ROOM = 999;
    private static final int LEAST_REACH = 80;
    private static final int MOST_REACH = 999;
    private static final int MOST_VERSION = 9;
    private static final int DATA_START = 1000;
    private static final int COMMON_ALIGNMENT = 4;
    private static final int ISLAND_SIZE = 2;
    private static final int MOST_STEPS = 100;
    private static final int NO_CODE_OUTPUT = 999;

    private final Inputs inputs;
    private final Selection selection;
    private final Layout layout;
    private final Runner runner;
    private final Libraries libraries;
    private int codeRoom;
    private int dataRoom;
    private int reach;
    private boolean isLinked;
    private int refusals;

    public LinkerYard() {
        Inputs told = new Inputs();
        Selection chosen = new Selection(told);
        Layout laid = new Layout(told, chosen);
        inputs = told;
        selection = chosen;
        layout = laid;
        runner = new Runner(told, chosen, laid);
        libraries = new Libraries();
        codeRoom = MOST_ROOM;
        dataRoom = MOST_ROOM;
        reach = MOST_REACH;
    }

    // ---- Inputs

    public int addObject(boolean isMember) throws IllegalStateException {
        if (inputs.objects.isFull()) {
            throw new IllegalStateException("there are 10 objects");
        }
        isLinked = false;
        return inputs.insertObject(isMember);
    }

    public int addSection(int object, boolean isCode, int size, int alignment, int content, boolean isKept)
            throws IndexOutOfBoundsException, IllegalArgumentException, IllegalStateException {
        requireObject(object);
        if (!isSize(size) || !isAlignment(alignment) || content < 0 || content > MOST_CONTENT) {
            throw new IllegalArgumentException("the size, the alignment or the content is out of range");
        }
        if (inputs.sections.isFull()) {
            throw new IllegalStateException("there are 24 sections");
        }
        isLinked = false;
        return inputs.insertSection(object, isCode, size, alignment, content, isKept);
    }

    public int define(int section, int name, int offset, char strength)
            throws IndexOutOfBoundsException, IllegalArgumentException, IllegalStateException {
        requireSection(section);
        if (!isName(name) || !inputs.isOffset(section, offset) || !isStrength(strength)) {
            throw new IllegalArgumentException("the name, the offset or the strength is out of range");
        }
        if (inputs.definitions.isFull() || inputs.isDefinedIn(section, name)) {
            throw new IllegalStateException("there are 40 definitions, or the section defines the name");
        }
        isLinked = false;
        inputs.insertDefinition(section, name, offset, strength);
        return inputs.definitionsOf(name);
    }

    public int addCommon(int object, int name, int size)
            throws IndexOutOfBoundsException, IllegalArgumentException, IllegalStateException {
        requireObject(object);
        if (!isName(name) || !isSize(size)) {
            throw new IllegalArgumentException("the name or the size is out of range");
        }
        if (inputs.hasCommon(object, name)) {
            throw new IllegalStateException("the object has a common for the name");
        }
        isLinked = false;
        inputs.insertCommon(object, name, size);
        return inputs.commonsFor(name);
    }

    public int refer(int section, int offset, int name, char kind)
            throws IndexOutOfBoundsException, IllegalArgumentException, IllegalStateException {
        requireSection(section);
        if (!inputs.isOffset(section, offset) || !isName(name) || kind != 'c' && kind != 'a') {
            throw new IllegalArgumentException("the offset, the name or the kind is out of range");
        }
        if (inputs.references.isFull() || !inputs.takesReference(section, offset)) {
            throw new IllegalStateException("there are 40 references, or the section has 4, or one at this offset");
        }
        isLinked = false;
        return inputs.insertReference(section, offset, name, kind);
    }

    public int setRooms(int code, int data) throws IllegalArgumentException {
        if (code < 1 || code > MOST_ROOM || data < 1 || data > MOST_ROOM) {
            throw new IllegalArgumentException("a room is out of range");
        }
        int before = codeRoom;
        codeRoom = code;
        dataRoom = data;
        isLinked = false;
        return before;
    }

    public int setReach(int reach) throws IllegalArgumentException {
        if (reach < LEAST_REACH || reach > MOST_REACH) {
            throw new IllegalArgumentException("the reach is out of range");
        }
        int before = this.reach;
        this.reach = reach;
        isLinked = false;
        return before;
    }

    // ---- Links and maps

    public char link(int root) throws IllegalArgumentException {
        requireName(root);
        isLinked = false;
        selection.takeObjects(root);
        if (selection.hasDouble()) {
            return 'd';
        }
        selection.resolve(root);
        selection.enliven();
        if (selection.lacksGoal()) {
            return 'u';
        }
        layout.fold();
        layout.settle(reach);
        if (layout.codeStop > codeRoom || layout.dataStop > DATA_START + dataRoom) {
            return 'r';
        }
        isLinked = true;
        return '-';
    }

    public boolean isTaken(int object) throws IndexOutOfBoundsException, IllegalStateException {
        requireObject(object);
        requireLink();
        return selection.takes(object);
    }

    public char fate(int section) throws IndexOutOfBoundsException, IllegalStateException {
        requireSection(section);
        requireLink();
        if (!selection.lives(section)) {
            return 'x';
        }
        return layout.isLaid(section) ? 'l' : 'f';
    }

    public int address(int section)
            throws IndexOutOfBoundsException, IllegalStateException, NoSuchElementException {
        requireSection(section);
        requireLink();
        if (!selection.lives(section)) {
            throw new NoSuchElementException("the section does not live");
        }
        return layout.startOf(section);
    }

    public int addressOf(int name)
            throws IllegalArgumentException, IllegalStateException, NoSuchElementException {
        requireName(name);
        requireLink();
        int goal = selection.standing.get(name);
        if (!selection.isLivingGoal(goal)) {
            throw new NoSuchElementException("the name stands for nothing that lives");
        }
        return layout.goalStart(goal);
    }

    public int target(int reference)
            throws IndexOutOfBoundsException, IllegalStateException, NoSuchElementException {
        requireLivingReference(reference);
        return layout.keptSection(selection.goals.get(reference));
    }

    public int targetAnew(int reference)
            throws IndexOutOfBoundsException, IllegalStateException, NoSuchElementException {
        requireLivingReference(reference);
        return layout.searchedSection(selection.searchGoal(reference));
    }

    public int valueOf(int reference)
            throws IndexOutOfBoundsException, IllegalStateException, NoSuchElementException {
        requireReference(reference);
        requireLink();
        if (!layout.isLaid(inputs.sectionOf(reference))) {
            throw new NoSuchElementException("the section is not laid");
        }
        return layout.value(reference);
    }

    public boolean hasIsland(int reference) throws IndexOutOfBoundsException, IllegalStateException {
        requireReference(reference);
        requireLink();
        return layout.islandFor(reference) != NONE;
    }

    public int islands() throws IllegalStateException {
        requireLink();
        return layout.islandTable.rows;
    }

    public int codeEnd() throws IllegalStateException {
        requireLink();
        return layout.codeStop;
    }

    public int dataEnd() throws IllegalStateException {
        requireLink();
        return layout.dataStop;
    }

    public long checksum() throws IllegalStateException {
        requireLink();
        return layout.sumOfValues();
    }

    public int run() throws IllegalStateException {
        requireLink();
        runner.perform(true);
        return runner.output;
    }

    public int runPlain() throws IllegalStateException {
        requireLink();
        runner.perform(false);
        return runner.output;
    }

    public int steps() throws IllegalStateException {
        requireLink();
        runner.perform(true);
        return runner.begun;
    }

    // ---- Libraries

    public int addLibrary() throws IllegalStateException {
        if (libraries.isFull()) {
            throw new IllegalStateException("there are 8 libraries");
        }
        return libraries.insert();
    }

    public int provide(int library, int name, int version)
            throws NoSuchElementException, IllegalArgumentException, UnsupportedOperationException {
        requireLibrary(library);
        requireVersion(name, version);
        if (libraries.isLoaded(library)) {
            throw new UnsupportedOperationException("the library is loaded");
        }
        int before = libraries.versions.get(library, name);
        libraries.versions.set(library, name, version);
        return before;
    }

    public int need(int library, int other)
            throws NoSuchElementException, IllegalArgumentException, UnsupportedOperationException,
            IllegalStateException {
        requireLibrary(library);
        requireLibrary(other);
        if (library == other) {
            throw new IllegalArgumentException("both libraries are the same");
        }
        if (libraries.isLoaded(library)) {
            throw new UnsupportedOperationException("the library is loaded");
        }
        if (libraries.isNeeding(library, other)) {
            throw new IllegalStateException("it needs the other one");
        }
        libraries.needs.set(library, other, 1);
        return libraries.needsOf(library);
    }

    public int load(int library) throws NoSuchElementException {
        requireLibrary(library);
        return libraries.raise(library);
    }

    public int unload(int library)
            throws NoSuchElementException, IllegalStateException, UnsupportedOperationException {
        requireLibrary(library);
        if (libraries.counts.get(library) <= 0) {
            throw new IllegalStateException("the count is 0");
        }
        int left = libraries.planLowering(library);
        if (libraries.isLeavingBound()) {
            throw new UnsupportedOperationException("one that stays has a binding to one that would leave");
        }
        libraries.carryOutPlan();
        return left;
    }

    public int count(int library) throws NoSuchElementException {
        requireLibrary(library);
        return libraries.counts.get(library);
    }

    public int loadedAt(int place) throws IndexOutOfBoundsException {
        if (!libraries.order.has(place)) {
            throw new IndexOutOfBoundsException("there is no such place");
        }
        return libraries.order.get(place, 0);
    }

    public int bind(int library, int name, int version)
            throws NoSuchElementException, IllegalArgumentException, IllegalStateException,
            UnsupportedOperationException {
        requireLibrary(library);
        requireVersion(name, version);
        if (!libraries.isLoaded(library)) {
            throw new IllegalStateException("the library is not loaded");
        }
        int provider = libraries.boundTo(library, name, version);
        if (provider == NONE) {
            provider = libraries.firstProvider(name, version);
        }
        if (provider == NONE) {
            throw new UnsupportedOperationException("no loaded library provides the name so");
        }
        libraries.keepBinding(library, name, version, provider);
        return provider;
    }

    public int bindings() {
        return libraries.bindingsKept();
    }

    public int tell(boolean isHeld, boolean isAll) {
        if (!isHeld) {
            refusals++;
        }
        return refusals;
    }

    // ---- Figures

    public float laidShare() throws IllegalStateException, ArithmeticException {
        requireLink();
        int all = inputs.sections.rows;
        if (all == 0) {
            throw new ArithmeticException("there are no sections");
        }
        return (float) layout.sectionsLaid() / (float) all;
    }

    public double meanSize() throws IllegalStateException, ArithmeticException {
        requireLink();
        int laid = layout.sectionsLaid();
        if (laid == 0) {
            throw new ArithmeticException("no sections are laid");
        }
        return (double) layout.sizeLaid() / (double) laid;
    }

    public boolean isSound() throws IllegalStateException {
        requireLink();
        runner.perform(true);
        int mapped = runner.output;
        runner.perform(false);
        return mapped == runner.output
                && layout.areTargetsAgreed()
                && layout.areSpansApart()
                && layout.firstUnreached(reach) == NONE;
    }

    // ---- What several calls test

    private void requireObject(int object) {
        if (!inputs.objects.has(object)) {
            throw new IndexOutOfBoundsException("there is no such object");
        }
    }

    private void requireSection(int section) {
        if (!inputs.sections.has(section)) {
            throw new IndexOutOfBoundsException("there is no such section");
        }
    }

    private void requireReference(int reference) {
        if (!inputs.references.has(reference)) {
            throw new IndexOutOfBoundsException("there is no such reference");
        }
    }

    private void requireLivingReference(int reference) {
        requireReference(reference);
        requireLink();
        if (!selection.lives(inputs.sectionOf(reference))) {
            throw new NoSuchElementException("the section does not live");
        }
    }

    private void requireName(int name) {
        if (!isName(name)) {
            throw new IllegalArgumentException("there is no such name");
        }
    }

    private void requireVersion(int name, int version) {
        if (!isName(name) || version < 1 || version > MOST_VERSION) {
            throw new IllegalArgumentException("the name or the version is out of range");
        }
    }

    private void requireLink() {
        if (!isLinked) {
            throw new IllegalStateException("there is no link");
        }
    }

    private void requireLibrary(int library) {
        if (!libraries.versions.has(library)) {
            throw new NoSuchElementException("there is no such library");
        }
    }

    private static boolean isName(int name) {
        return name >= 0 && name < NAMES;
    }

    private static boolean isSize(int size) {
        return size >= 1 && size <= MOST_SIZE;
    }

    private static boolean isAlignment(int alignment) {
        return alignment >= 1 && alignment <= 16 && Integer.bitCount(alignment) == 1;
    }

    private static boolean isStrength(char strength) {
        return strength == 's' || strength == 'w' || strength == 'l';
    }

    /** Numbers in a row; outside of it stands NONE, so that no index can miss. */
    private static final class Row {
        private final int[] cells;

        private Row(int length) {
            cells = new int[length > 0 ? length : 0];
        }

        private int get(int place) {
            return place >= 0 && place < cells.length ? cells[place] : NONE;
        }

        private void set(int place, int value) {
            if (place >= 0 && place < cells.length) {
                cells[place] = value;
            }
        }

        private void fill(int value) {
            Arrays.fill(cells, value);
        }
    }

    /** Rows of numbers, of which some are in use; outside of all of them stands NONE. */
    private static final class Table {
        private final int[] cells;
        private final int most;
        private final int width;
        private int rows;

        private Table(int most, int width) {
            int length = most * width;
            this.cells = new int[length > 0 ? length : 0];
            this.most = most;
            this.width = width;
        }

        private boolean isFull() {
            return rows >= most;
        }

        private boolean has(int row) {
            return row >= 0 && row < rows;
        }

        private int add() {
            if (rows >= most) {
                return NONE;
            }
            rows++;
            return rows - 1;
        }

        /** Gives up all rows in use behind the first ones. */
        private void keep(int first) {
            if (first >= 0 && first < rows) {
                rows = first;
            }
        }

        private int get(int row, int column) {
            if (row < 0 || row >= most || column < 0 || column >= width) {
                return NONE;
            }
            int place = row * width + column;
            return place >= 0 && place < cells.length ? cells[place] : NONE;
        }

        private void set(int row, int column, int value) {
            if (row < 0 || row >= most || column < 0 || column >= width) {
                return;
            }
            int place = row * width + column;
            if (place >= 0 && place < cells.length) {
                cells[place] = value;
            }
        }
    }

    /** What was told of objects, sections, definitions, commons and references. */
    private static final class Inputs {
        private static final int SECTION_OBJECT = 0;
        private static final int SECTION_CODE = 1;
        private static final int SECTION_SIZE = 2;
        private static final int SECTION_ALIGNMENT = 3;
        private static final int SECTION_CONTENT = 4;
        private static final int SECTION_KEPT = 5;
        private static final int DEFINITION_SECTION = 0;
        private static final int DEFINITION_NAME = 1;
        private static final int DEFINITION_OFFSET = 2;
        private static final int DEFINITION_STRENGTH = 3;
        /** Kept beside the section, so that those who ask for it need not go through the section. */
        private static final int DEFINITION_OBJECT = 4;
        private static final int COMMON_OBJECT = 0;
        private static final int COMMON_NAME = 1;
        private static final int COMMON_SIZE = 2;
        private static final int REFERENCE_SECTION = 0;
        private static final int REFERENCE_OFFSET = 1;
        private static final int REFERENCE_NAME = 2;
        private static final int REFERENCE_KIND = 3;

        private final Table objects = new Table(MOST_OBJECTS, 1);
        private final Table sections = new Table(MOST_SECTIONS, 6);
        private final Table definitions = new Table(MOST_DEFINITIONS, 5);
        private final Table commons = new Table(MOST_COMMONS, 3);
        private final Table references = new Table(MOST_REFERENCES, 4);

        private int insertObject(boolean isMember) {
            int object = objects.add();
            objects.set(object, 0, isMember ? 1 : 0);
            return object;
        }

        private int insertSection(int object, boolean isCode, int size, int alignment, int content,
                boolean isKept) {
            int section = sections.add();
            sections.set(section, SECTION_OBJECT, object);
            sections.set(section, SECTION_CODE, isCode ? 1 : 0);
            sections.set(section, SECTION_SIZE, size);
            sections.set(section, SECTION_ALIGNMENT, alignment);
            sections.set(section, SECTION_CONTENT, content);
            sections.set(section, SECTION_KEPT, isKept ? 1 : 0);
            return section;
        }

        private void insertDefinition(int section, int name, int offset, char strength) {
            int definition = definitions.add();
            definitions.set(definition, DEFINITION_SECTION, section);
            definitions.set(definition, DEFINITION_NAME, name);
            definitions.set(definition, DEFINITION_OFFSET, offset);
            definitions.set(definition, DEFINITION_STRENGTH, strength);
            definitions.set(definition, DEFINITION_OBJECT, objectOf(section));
        }

        private void insertCommon(int object, int name, int size) {
            int common = commons.add();
            commons.set(common, COMMON_OBJECT, object);
            commons.set(common, COMMON_NAME, name);
            commons.set(common, COMMON_SIZE, size);
        }

        private int insertReference(int section, int offset, int name, char kind) {
            int reference = references.add();
            references.set(reference, REFERENCE_SECTION, section);
            references.set(reference, REFERENCE_OFFSET, offset);
            references.set(reference, REFERENCE_NAME, name);
            references.set(reference, REFERENCE_KIND, kind);
            return reference;
        }

        private boolean isMemberObject(int object) {
            return objects.get(object, 0) == 1;
        }

        private int objectOf(int section) {
            return sections.get(section, SECTION_OBJECT);
        }

        private boolean isCodeSection(int section) {
            return sections.get(section, SECTION_CODE) == 1;
        }

        private int sizeOf(int section) {
            return sections.get(section, SECTION_SIZE);
        }

        private int alignmentOf(int section) {
            return sections.get(section, SECTION_ALIGNMENT);
        }

        private int contentOf(int section) {
            return sections.get(section, SECTION_CONTENT);
        }

        private boolean isKeptSection(int section) {
            return sections.get(section, SECTION_KEPT) == 1;
        }

        private boolean isOffset(int section, int offset) {
            return offset >= 0 && offset < sizeOf(section);
        }

        private int definerOf(int definition) {
            return definitions.get(definition, DEFINITION_SECTION);
        }

        private int nameDefined(int definition) {
            return definitions.get(definition, DEFINITION_NAME);
        }

        private int offsetDefined(int definition) {
            return definitions.get(definition, DEFINITION_OFFSET);
        }

        private int strengthOf(int definition) {
            return definitions.get(definition, DEFINITION_STRENGTH);
        }

        private int objectDefining(int definition) {
            return definitions.get(definition, DEFINITION_OBJECT);
        }

        private boolean isDefinedIn(int section, int name) {
            for (int definition = 0; definition < definitions.rows; definition++) {
                if (definerOf(definition) == section && nameDefined(definition) == name) {
                    return true;
                }
            }
            return false;
        }

        private int definitionsOf(int name) {
            int found = 0;
            for (int definition = 0; definition < definitions.rows; definition++) {
                if (nameDefined(definition) == name) {
                    found++;
                }
            }
            return found;
        }

        /** The local definition of a name in an object, of several that with the lowest section. */
        private int localDefinition(int object, int name) {
            int found = NONE;
            for (int definition = 0; definition < definitions.rows; definition++) {
                if (nameDefined(definition) == name && strengthOf(definition) == 'l'
                        && objectDefining(definition) == object
                        && (found == NONE || definerOf(definition) < definerOf(found))) {
                    found = definition;
                }
            }
            return found;
        }

        private int commonObject(int common) {
            return commons.get(common, COMMON_OBJECT);
        }

        private int commonName(int common) {
            return commons.get(common, COMMON_NAME);
        }

        private int commonSize(int common) {
            return commons.get(common, COMMON_SIZE);
        }

        private boolean hasCommon(int object, int name) {
            for (int common = 0; common < commons.rows; common++) {
                if (commonObject(common) == object && commonName(common) == name) {
                    return true;
                }
            }
            return false;
        }

        private int commonsFor(int name) {
            int found = 0;
            for (int common = 0; common < commons.rows; common++) {
                if (commonName(common) == name) {
                    found++;
                }
            }
            return found;
        }

        private int sectionOf(int reference) {
            return references.get(reference, REFERENCE_SECTION);
        }

        private int offsetOf(int reference) {
            return references.get(reference, REFERENCE_OFFSET);
        }

        private int nameOf(int reference) {
            return references.get(reference, REFERENCE_NAME);
        }

        private boolean isCall(int reference) {
            return references.get(reference, REFERENCE_KIND) == 'c';
        }

        private boolean takesReference(int section, int offset) {
            int there = 0;
            for (int reference = 0; reference < references.rows; reference++) {
                if (sectionOf(reference) == section) {
                    if (offsetOf(reference) == offset) {
                        return false;
                    }
                    there++;
                }
            }
            return there < MOST_IN_SECTION;
        }

        /** The reference of a section with the lowest offset behind the one that is given. */
        private int nextReference(int section, int offset) {
            int next = NONE;
            for (int reference = 0; reference < references.rows; reference++) {
                int at = offsetOf(reference);
                if (sectionOf(reference) == section && at > offset && (next == NONE || at < offsetOf(next))) {
                    next = reference;
                }
            }
            return next;
        }
    }

    /**
     * What a link takes, what its references go to, and what lives by that. A goal is the number of a
     * definition, or MOST_DEFINITIONS and the number of a common, or NONE.
     */
    private static final class Selection {
        private final Inputs inputs;
        private final Row taken = new Row(MOST_OBJECTS);
        private final Row open = new Row(NAMES);
        private final Row standing = new Row(NAMES);
        private final Row goals = new Row(MOST_REFERENCES);
        private final Row living = new Row(MOST_SECTIONS);
        private final Row livingCommons = new Row(MOST_COMMONS);
        private int rootGoal;

        private Selection(Inputs inputs) {
            this.inputs = inputs;
        }

        private boolean takes(int object) {
            return taken.get(object) == 1;
        }

        private boolean lives(int section) {
            return living.get(section) == 1;
        }

        private boolean isLivingGoal(int goal) {
            if (goal == NONE) {
                return false;
            }
            return goal < MOST_DEFINITIONS
                    ? living.get(inputs.definerOf(goal)) == 1
                    : livingCommons.get(goal - MOST_DEFINITIONS) == 1;
        }

        private void takeObjects(int root) {
            for (int object = 0; object < inputs.objects.rows; object++) {
                taken.set(object, inputs.isMemberObject(object) ? 0 : 1);
            }
            for (int turn = 0; turn < inputs.objects.rows; turn++) {
                markOpenNames(root);
                int member = lowestWanted();
                if (member == NONE) {
                    return;
                }
                taken.set(member, 1);
            }
        }

        private void markOpenNames(int root) {
            for (int name = 0; name < NAMES; name++) {
                boolean isOpen = !isAnswered(name) && (name == root || isAskedFor(name));
                open.set(name, isOpen ? 1 : 0);
            }
        }

        private boolean isAnswered(int name) {
            for (int definition = 0; definition < inputs.definitions.rows; definition++) {
                if (inputs.nameDefined(definition) == name && inputs.strengthOf(definition) != 'l'
                        && takes(inputs.objectDefining(definition))) {
                    return true;
                }
            }
            for (int common = 0; common < inputs.commons.rows; common++) {
                if (inputs.commonName(common) == name && takes(inputs.commonObject(common))) {
                    return true;
                }
            }
            return false;
        }

        private boolean isAskedFor(int name) {
            for (int reference = 0; reference < inputs.references.rows; reference++) {
                int object = inputs.objectOf(inputs.sectionOf(reference));
                if (inputs.nameOf(reference) == name && takes(object)
                        && inputs.localDefinition(object, name) == NONE) {
                    return true;
                }
            }
            return false;
        }

        private int lowestWanted() {
            int lowest = NONE;
            for (int definition = 0; definition < inputs.definitions.rows; definition++) {
                if (inputs.strengthOf(definition) == 's') {
                    lowest = lowerWanted(lowest, inputs.objectDefining(definition),
                            inputs.nameDefined(definition));
                }
            }
            for (int common = 0; common < inputs.commons.rows; common++) {
                lowest = lowerWanted(lowest, inputs.commonObject(common), inputs.commonName(common));
            }
            return lowest;
        }

        private int lowerWanted(int lowest, int object, int name) {
            boolean isLower = lowest == NONE || object < lowest;
            return isLower && !takes(object) && open.get(name) == 1 ? object : lowest;
        }

        /** Whether two sections of objects that are taken define a name strongly. */
        private boolean hasDouble() {
            for (int name = 0; name < NAMES; name++) {
                int found = 0;
                for (int definition = 0; definition < inputs.definitions.rows; definition++) {
                    if (inputs.nameDefined(definition) == name && inputs.strengthOf(definition) == 's'
                            && takes(inputs.objectDefining(definition))) {
                        found++;
                    }
                }
                if (found > 1) {
                    return true;
                }
            }
            return false;
        }

        private void resolve(int root) {
            for (int name = 0; name < NAMES; name++) {
                standing.set(name, searchStanding(name));
            }
            rootGoal = standing.get(root);
            for (int reference = 0; reference < inputs.references.rows; reference++) {
                goals.set(reference, searchGoal(reference));
            }
        }

        private int searchGoal(int reference) {
            int name = inputs.nameOf(reference);
            int local = inputs.localDefinition(inputs.objectOf(inputs.sectionOf(reference)), name);
            return local != NONE ? local : searchStanding(name);
        }

        private int searchStanding(int name) {
            int strong = lowestTaken(name, 's');
            if (strong != NONE) {
                return strong;
            }
            int common = greatestCommon(name);
            return common != NONE ? MOST_DEFINITIONS + common : lowestTaken(name, 'w');
        }

        private int lowestTaken(int name, char strength) {
            int lowest = NONE;
            for (int definition = 0; definition < inputs.definitions.rows; definition++) {
                if (inputs.nameDefined(definition) == name && inputs.strengthOf(definition) == strength
                        && takes(inputs.objectDefining(definition))
                        && (lowest == NONE || inputs.definerOf(definition) < inputs.definerOf(lowest))) {
                    lowest = definition;
                }
            }
            return lowest;
        }

        private int greatestCommon(int name) {
            int greatest = NONE;
            int greatestSize = 0;
            int greatestObject = NONE;
            for (int common = 0; common < inputs.commons.rows; common++) {
                int size = inputs.commonSize(common);
                int object = inputs.commonObject(common);
                boolean isGreater = size > greatestSize || size == greatestSize && object < greatestObject;
                if (isGreater && inputs.commonName(common) == name && takes(object)) {
                    greatest = common;
                    greatestSize = size;
                    greatestObject = object;
                }
            }
            return greatest;
        }

        private void enliven() {
            livingCommons.fill(0);
            for (int section = 0; section < inputs.sections.rows; section++) {
                boolean isKept = inputs.isKeptSection(section) && takes(inputs.objectOf(section));
                living.set(section, isKept ? 1 : 0);
            }
            enlivenGoal(rootGoal);
            // A turn that does not end the search makes at least one section live.
            for (int turn = 0; turn <= inputs.sections.rows; turn++) {
                for (int reference = 0; reference < inputs.references.rows; reference++) {
                    if (lives(inputs.sectionOf(reference))) {
                        enlivenGoal(goals.get(reference));
                    }
                }
            }
        }

        private void enlivenGoal(int goal) {
            if (goal == NONE) {
                return;
            }
            if (goal < MOST_DEFINITIONS) {
                living.set(inputs.definerOf(goal), 1);
            } else {
                livingCommons.set(goal - MOST_DEFINITIONS, 1);
            }
        }

        private boolean lacksGoal() {
            for (int reference = 0; reference < inputs.references.rows; reference++) {
                if (lives(inputs.sectionOf(reference)) && goals.get(reference) == NONE) {
                    return true;
                }
            }
            return rootGoal == NONE;
        }

        /** The code section that has the definition, or NONE for data and commons. */
        private int codeSectionOf(int goal) {
            if (goal == NONE || goal >= MOST_DEFINITIONS) {
                return NONE;
            }
            int section = inputs.definerOf(goal);
            return inputs.isCodeSection(section) ? section : NONE;
        }
    }

    /** The map of a link: what is folded, where all is laid, and the islands. */
    private static final class Layout {
        private static final int ISLAND_REFERENCE = 0;
        private static final int ISLAND_START = 1;
        private static final int FIRST_COMMON_SPAN = MOST_SECTIONS;
        private static final int FIRST_ISLAND_SPAN = MOST_SECTIONS + MOST_COMMONS;

        private final Inputs inputs;
        private final Selection selection;
        /** For each section the one into which it is folded, or itself, or NONE if it does not live. */
        private final Row steads = new Row(MOST_SECTIONS);
        private final Row starts = new Row(MOST_SECTIONS);
        private final Row commonStarts = new Row(MOST_COMMONS);
        private final Table islandTable = new Table(MOST_REFERENCES, 2);
        private int codeStop;
        private int dataStop;

        private Layout(Inputs inputs, Selection selection) {
            this.inputs = inputs;
            this.selection = selection;
        }

        private boolean isLaid(int section) {
            return section != NONE && steads.get(section) == section;
        }

        private void fold() {
            for (int section = 0; section < inputs.sections.rows; section++) {
                steads.set(section, searchStead(section));
            }
        }

        /** To be alike goes on from one to the next, so the lowest one that is alike is never folded. */
        private int searchStead(int section) {
            if (!selection.lives(section)) {
                return NONE;
            }
            if (isFoldable(section)) {
                for (int other = 0; other < section; other++) {
                    if (isFoldable(other) && areAlike(section, other)) {
                        return other;
                    }
                }
            }
            return section;
        }

        private boolean isFoldable(int section) {
            if (!selection.lives(section) || !inputs.isCodeSection(section)) {
                return false;
            }
            for (int reference = 0; reference < inputs.references.rows; reference++) {
                if (!inputs.isCall(reference) && selection.lives(inputs.sectionOf(reference))
                        && selection.codeSectionOf(selection.goals.get(reference)) == section) {
                    return false;
                }
            }
            return true;
        }

        private boolean areAlike(int one, int other) {
            if (inputs.sizeOf(one) != inputs.sizeOf(other)
                    || inputs.alignmentOf(one) != inputs.alignmentOf(other)
                    || inputs.contentOf(one) != inputs.contentOf(other)) {
                return false;
            }
            int offset = NONE;
            for (int place = 0; place <= MOST_IN_SECTION; place++) {
                int mine = inputs.nextReference(one, offset);
                int others = inputs.nextReference(other, offset);
                if (mine == NONE || others == NONE) {
                    return mine == others;
                }
                if (!areReferencesAlike(mine, others)) {
                    return false;
                }
                offset = inputs.offsetOf(mine);
            }
            return true;
        }

        private boolean areReferencesAlike(int one, int other) {
            return inputs.offsetOf(one) == inputs.offsetOf(other)
                    && inputs.isCall(one) == inputs.isCall(other)
                    && selection.goals.get(one) == selection.goals.get(other);
        }

        /** Lays all, and lays all anew behind each island that comes. */
        private void settle(int reach) {
            islandTable.keep(0);
            layAll();
            for (int turn = 0; turn < inputs.references.rows; turn++) {
                int reference = firstUnreached(reach);
                if (reference == NONE) {
                    return;
                }
                islandTable.set(islandTable.add(), ISLAND_REFERENCE, reference);
                layAll();
            }
        }

        private void layAll() {
            codeStop = laySections(true, 0);
            dataStop = layCommons(laySections(false, DATA_START));
        }

        private int laySections(boolean isCode, int from) {
            int at = from;
            for (int section = 0; section < inputs.sections.rows; section++) {
                if (isLaid(section) && inputs.isCodeSection(section) == isCode) {
                    int start = alignedUp(at, inputs.alignmentOf(section));
                    starts.set(section, start);
                    at = layIslands(section, start + inputs.sizeOf(section));
                }
            }
            return at;
        }

        private int layIslands(int section, int from) {
            int at = from;
            for (int island = 0; island < islandTable.rows; island++) {
                if (inputs.sectionOf(islandTable.get(island, ISLAND_REFERENCE)) == section) {
                    islandTable.set(island, ISLAND_START, at);
                    at += ISLAND_SIZE;
                }
            }
            return at;
        }

        /** A name stands for one common at most, so no two living commons have one name. */
        private int layCommons(int from) {
            int at = from;
            for (int name = 0; name < NAMES; name++) {
                int goal = selection.standing.get(name);
                if (goal >= MOST_DEFINITIONS && selection.isLivingGoal(goal)) {
                    int common = goal - MOST_DEFINITIONS;
                    at = alignedUp(at, COMMON_ALIGNMENT);
                    commonStarts.set(common, at);
                    at += inputs.commonSize(common);
                }
            }
            return at;
        }

        /** An alignment is a power of two. */
        private static int alignedUp(int at, int alignment) {
            return (at + alignment - 1) & -alignment;
        }

        private int startOf(int section) {
            return starts.get(steads.get(section));
        }

        private int goalStart(int goal) {
            if (goal >= MOST_DEFINITIONS) {
                return commonStarts.get(goal - MOST_DEFINITIONS);
            }
            return startOf(inputs.definerOf(goal)) + inputs.offsetDefined(goal);
        }

        private int placeOf(int reference) {
            return startOf(inputs.sectionOf(reference)) + inputs.offsetOf(reference);
        }

        private int islandFor(int reference) {
            for (int island = 0; island < islandTable.rows; island++) {
                if (islandTable.get(island, ISLAND_REFERENCE) == reference) {
                    return island;
                }
            }
            return NONE;
        }

        private int islandAt(int start) {
            for (int island = 0; island < islandTable.rows; island++) {
                if (islandTable.get(island, ISLAND_START) == start) {
                    return island;
                }
            }
            return NONE;
        }

        /** The first call, by its section and its offset, that does not reach and has no island. */
        private int firstUnreached(int reach) {
            for (int section = 0; section < inputs.sections.rows; section++) {
                if (isLaid(section)) {
                    int reference = inputs.nextReference(section, NONE);
                    for (int place = 0; place < MOST_IN_SECTION && reference != NONE; place++) {
                        if (isUnreached(reference, reach)) {
                            return reference;
                        }
                        reference = inputs.nextReference(section, inputs.offsetOf(reference));
                    }
                }
            }
            return NONE;
        }

        private boolean isUnreached(int reference, int reach) {
            if (!inputs.isCall(reference) || islandFor(reference) != NONE) {
                return false;
            }
            return Math.abs(goalStart(selection.goals.get(reference)) - placeOf(reference)) > reach;
        }

        private int value(int reference) {
            int goal = goalStart(selection.goals.get(reference));
            if (!inputs.isCall(reference)) {
                return goal;
            }
            int island = islandFor(reference);
            return (island == NONE ? goal : islandTable.get(island, ISLAND_START)) - placeOf(reference);
        }

        private long sumOfValues() {
            long sum = 0;
            for (int reference = 0; reference < inputs.references.rows; reference++) {
                if (isLaid(inputs.sectionOf(reference))) {
                    sum += (long) value(reference) * (reference + 1);
                }
            }
            return sum;
        }

        /** Where a call comes to by its value; an island leads on to the goal. */
        private int arrivalOf(int call) {
            int at = placeOf(call) + value(call);
            int island = islandAt(at);
            if (island == NONE) {
                return at;
            }
            return goalStart(selection.goals.get(islandTable.get(island, ISLAND_REFERENCE)));
        }

        private int codeSectionAt(int at) {
            for (int section = 0; section < inputs.sections.rows; section++) {
                if (isLaid(section) && inputs.isCodeSection(section)) {
                    int into = at - starts.get(section);
                    if (into >= 0 && into < inputs.sizeOf(section)) {
                        return section;
                    }
                }
            }
            return NONE;
        }

        private int keptSection(int goal) {
            return goal >= MOST_DEFINITIONS ? NONE : steads.get(inputs.definerOf(goal));
        }

        private int searchedSection(int goal) {
            return goal >= MOST_DEFINITIONS ? NONE : searchStead(inputs.definerOf(goal));
        }

        private boolean areTargetsAgreed() {
            for (int reference = 0; reference < inputs.references.rows; reference++) {
                if (selection.lives(inputs.sectionOf(reference))) {
                    int kept = keptSection(selection.goals.get(reference));
                    if (kept != searchedSection(selection.searchGoal(reference))) {
                        return false;
                    }
                }
            }
            return true;
        }

        /** Spans are all that may be laid: the sections, then the commons, then the islands. */
        private boolean areSpansApart() {
            int spans = FIRST_ISLAND_SPAN + islandTable.rows;
            for (int one = 0; one < spans; one++) {
                int start = spanStart(one);
                int stop = start + spanSize(one);
                for (int other = 0; start != NONE && other < one; other++) {
                    int otherStart = spanStart(other);
                    if (otherStart != NONE && otherStart < stop && start < otherStart + spanSize(other)) {
                        return false;
                    }
                }
            }
            return true;
        }

        private int spanStart(int span) {
            if (span >= FIRST_ISLAND_SPAN) {
                return islandTable.get(span - FIRST_ISLAND_SPAN, ISLAND_START);
            }
            if (span >= FIRST_COMMON_SPAN) {
                int common = span - FIRST_COMMON_SPAN;
                return selection.livingCommons.get(common) == 1 ? commonStarts.get(common) : NONE;
            }
            return isLaid(span) ? starts.get(span) : NONE;
        }

        private int spanSize(int span) {
            if (span >= FIRST_ISLAND_SPAN) {
                return ISLAND_SIZE;
            }
            return span >= FIRST_COMMON_SPAN
                    ? inputs.commonSize(span - FIRST_COMMON_SPAN) : inputs.sizeOf(span);
        }

        private int sectionsLaid() {
            int laid = 0;
            for (int section = 0; section < inputs.sections.rows; section++) {
                if (isLaid(section)) {
                    laid++;
                }
            }
            return laid;
        }

        private int sizeLaid() {
            int size = 0;
            for (int section = 0; section < inputs.sections.rows; section++) {
                if (isLaid(section)) {
                    size += inputs.sizeOf(section);
                }
            }
            return size;
        }
    }

    /** Runs of what was linked, by the map or by the plain inputs. */
    private static final class Runner {
        private static final int FRAME_SECTION = 0;
        private static final int FRAME_OFFSET = 1;
        /** Above all that a run can do: a step has at most four calls, and is left once. */
        private static final int MOST_TURNS = MOST_STEPS * 10;
        private static final int FACTOR = 31;
        private static final int MODULUS = 1000003;

        private final Inputs inputs;
        private final Selection selection;
        private final Layout layout;
        private final Table frames = new Table(MOST_STEPS, 2);
        private int depth;
        private int output;
        private int begun;

        private Runner(Inputs inputs, Selection selection, Layout layout) {
            this.inputs = inputs;
            this.selection = selection;
            this.layout = layout;
        }

        private void perform(boolean isByMap) {
            int root = isByMap
                    ? layout.codeSectionAt(layout.goalStart(selection.rootGoal))
                    : selection.codeSectionOf(selection.rootGoal);
            depth = 0;
            begun = 0;
            output = 0;
            if (root == NONE) {
                output = NO_CODE_OUTPUT;
                return;
            }
            enter(root);
            for (int turn = 0; turn < MOST_TURNS && depth > 0 && begun < MOST_STEPS; turn++) {
                advance(isByMap);
            }
        }

        private void enter(int section) {
            frames.set(depth, FRAME_SECTION, section);
            frames.set(depth, FRAME_OFFSET, NONE);
            depth++;
            begun++;
            mix(inputs.contentOf(section));
        }

        private void mix(int content) {
            output = (FACTOR * output + content) % MODULUS;
        }

        private void advance(boolean isByMap) {
            int top = depth - 1;
            int reference = inputs.nextReference(frames.get(top, FRAME_SECTION), frames.get(top, FRAME_OFFSET));
            if (reference == NONE) {
                depth = top;
                return;
            }
            frames.set(top, FRAME_OFFSET, inputs.offsetOf(reference));
            if (!inputs.isCall(reference)) {
                return;
            }
            int next = isByMap
                    ? layout.codeSectionAt(layout.arrivalOf(reference))
                    : selection.codeSectionOf(selection.goals.get(reference));
            if (next == NONE) {
                mix(NO_CODE_OUTPUT);
            } else {
                enter(next);
            }
        }
    }

    /** Libraries with their needs and counts, the order in which they stand, and their bindings. */
    private static final class Libraries {
        /** A row for each library, with the version in which it provides each name, or 0. */
        private final Table versions = new Table(MOST_LIBRARIES, NAMES);
        private final Table needs = new Table(MOST_LIBRARIES, MOST_LIBRARIES);
        private final Row counts = new Row(MOST_LIBRARIES);
        private final Table order = new Table(MOST_LIBRARIES, 1);
        private final Row underway = new Row(MOST_LIBRARIES);
        /** A row for each library and name, a column for each version: the provider plus 1, or 0. */
        private final Table bound = new Table(MOST_LIBRARIES * NAMES, MOST_VERSION + 1);
        private final Row plannedCounts = new Row(MOST_LIBRARIES);
        private final Row leaving = new Row(MOST_LIBRARIES);

        private boolean isFull() {
            return versions.isFull();
        }

        private int insert() {
            return versions.add();
        }

        private boolean isLoaded(int library) {
            for (int place = 0; place < order.rows; place++) {
                if (order.get(place, 0) == library) {
                    return true;
                }
            }
            return false;
        }

        private boolean isNeeding(int library, int other) {
            return needs.get(library, other) == 1;
        }

        private int needsOf(int library) {
            int found = 0;
            for (int other = 0; other < versions.rows; other++) {
                found += isNeeding(library, other) ? 1 : 0;
            }
            return found;
        }

        private int raise(int library) {
            int stood = order.rows;
            if (!isLoaded(library)) {
                putOn(this, library, 0);
            }
            counts.set(library, counts.get(library) + 1);
            return order.rows - stood;
        }

        private static void putOn(Libraries all, int library, int depth) {
            if (depth > MOST_LIBRARIES) {
                return;
            }
            all.underway.set(library, 1);
            for (int other = 0; other < all.versions.rows; other++) {
                if (all.isNeeding(library, other) && !all.isLoaded(other) && all.underway.get(other) != 1) {
                    putOn(all, other, depth + 1);
                }
            }
            all.underway.set(library, 0);
            all.order.set(all.order.add(), 0, library);
            all.raiseNeeded(library);
        }

        private void raiseNeeded(int library) {
            for (int other = 0; other < versions.rows; other++) {
                if (isNeeding(library, other)) {
                    counts.set(other, counts.get(other) + 1);
                }
            }
        }

        /** Finds out what an unloading would do, and changes nothing yet; tells how many leave. */
        private int planLowering(int library) {
            for (int other = 0; other < versions.rows; other++) {
                plannedCounts.set(other, counts.get(other));
                leaving.set(other, 0);
            }
            return lower(this, library, 0);
        }

        private static int lower(Libraries all, int library, int depth) {
            int count = all.plannedCounts.get(library);
            if (depth > MOST_LIBRARIES || count <= 0) {
                return 0;
            }
            all.plannedCounts.set(library, count - 1);
            if (count > 1) {
                return 0;
            }
            all.leaving.set(library, 1);
            int left = 1;
            for (int other = all.versions.rows - 1; other >= 0; other--) {
                if (all.isNeeding(library, other)) {
                    left += lower(all, other, depth + 1);
                }
            }
            return left;
        }

        private boolean isLeavingBound() {
            for (int row = 0; row < MOST_LIBRARIES * NAMES; row++) {
                boolean isStaying = leaving.get(row / NAMES) != 1;
                for (int version = 1; version <= MOST_VERSION; version++) {
                    if (isStaying && leaving.get(bound.get(row, version) - 1) == 1) {
                        return true;
                    }
                }
            }
            return false;
        }

        private void carryOutPlan() {
            for (int library = 0; library < versions.rows; library++) {
                counts.set(library, plannedCounts.get(library));
            }
            int staying = 0;
            for (int place = 0; place < order.rows; place++) {
                int library = order.get(place, 0);
                if (leaving.get(library) != 1) {
                    order.set(staying, 0, library);
                    staying++;
                }
            }
            order.keep(staying);
            dropBindings();
        }

        /** Nothing that stays is bound to what leaves, so the bindings of those that leave are all. */
        private void dropBindings() {
            for (int row = 0; row < MOST_LIBRARIES * NAMES; row++) {
                for (int version = 1; version <= MOST_VERSION; version++) {
                    if (leaving.get(row / NAMES) == 1) {
                        bound.set(row, version, 0);
                    }
                }
            }
        }

        private int boundTo(int library, int name, int version) {
            return bound.get(library * NAMES + name, version) - 1;
        }

        private int firstProvider(int name, int version) {
            for (int place = 0; place < order.rows; place++) {
                int library = order.get(place, 0);
                if (versions.get(library, name) >= version) {
                    return library;
                }
            }
            return NONE;
        }

        private void keepBinding(int library, int name, int version, int provider) {
            bound.set(library * NAMES + name, version, provider + 1);
        }

        private int bindingsKept() {
            int kept = 0;
            for (int row = 0; row < MOST_LIBRARIES * NAMES; row++) {
                for (int version = 1; version <= MOST_VERSION; version++) {
                    if (bound.get(row, version) > 0) {
                        kept++;
                    }
                }
            }
            return kept;
        }
    }
}
