import java.util.ArrayList;
import java.util.Comparator;
import java.util.HashMap;
import java.util.HashSet;
import java.util.List;
import java.util.Map;
import java.util.NoSuchElementException;
import java.util.Set;
import java.util.TreeMap;
import java.util.TreeSet;

/** The document's words once more, with the Java library and without regard to its limits. */
final class Model {
    /** An object of the yard. */
    private static final class Obj {
        boolean isMember;
        final TreeMap<Integer, Common> commons = new TreeMap<>();
    }

    /** What a reference can go to: a definition or a common. */
    private interface Goal {
    }

    private record Common(Obj object, int name, int size) implements Goal {
    }

    private record Definition(Section section, int name, int offset, char strength) implements Goal {
    }

    private record Reference(Section section, int number, int offset, int name, char kind) {
    }

    /** A section of the yard. */
    private static final class Section {
        int number;
        Obj object;
        boolean isCode;
        int size;
        int alignment;
        int content;
        boolean isKept;
        final TreeMap<Integer, Definition> definitions = new TreeMap<>();
        final TreeMap<Integer, Reference> references = new TreeMap<>();
    }

    /** A link that did not fail. */
    private static final class Link {
        Goal root;
        final Set<Obj> taken = new HashSet<>();
        final Set<Section> living = new HashSet<>();
        final Set<Common> livingCommons = new HashSet<>();
        final Map<Reference, Goal> goals = new HashMap<>();
        final Map<Section, Section> folded = new HashMap<>();
        final Map<Section, Integer> starts = new HashMap<>();
        final Map<Common, Integer> commonStarts = new HashMap<>();
        final List<Reference> islands = new ArrayList<>();
        final Map<Reference, Integer> islandStarts = new HashMap<>();
        int codeEnd;
        int dataEnd;
    }

    private record Binding(int library, int name, int version) {
    }

    /** A library of the yard. */
    private static final class Library {
        final TreeMap<Integer, Integer> provided = new TreeMap<>();
        final TreeSet<Integer> needs = new TreeSet<>();
        int count;
    }

    private final List<Obj> objects = new ArrayList<>();
    private final List<Section> sections = new ArrayList<>();
    private final List<Reference> references = new ArrayList<>();
    private final List<Library> libraries = new ArrayList<>();
    private final List<Integer> standing = new ArrayList<>();
    private final Map<Binding, Integer> bound = new HashMap<>();
    private int codeRoom = 999;
    private int dataRoom = 999;
    private int reach = 999;
    private int refusals;
    private Link link;

    private static void outOfBounds(boolean holds) {
        if (holds) {
            throw new IndexOutOfBoundsException();
        }
    }

    private static void badArgument(boolean holds) {
        if (holds) {
            throw new IllegalArgumentException();
        }
    }

    private static void badState(boolean holds) {
        if (holds) {
            throw new IllegalStateException();
        }
    }

    private static void noElement(boolean holds) {
        if (holds) {
            throw new NoSuchElementException();
        }
    }

    private static void unsupported(boolean holds) {
        if (holds) {
            throw new UnsupportedOperationException();
        }
    }

    private static boolean isOutside(int number, int least, int most) {
        return number < least || number > most;
    }

    int addObject(boolean isMember) {
        badState(objects.size() == 10);
        Obj object = new Obj();
        object.isMember = isMember;
        objects.add(object);
        link = null;
        return objects.size() - 1;
    }

    int addSection(int object, boolean isCode, int size, int alignment, int content, boolean isKept) {
        outOfBounds(isOutside(object, 0, objects.size() - 1));
        badArgument(isOutside(size, 1, 64) || !List.of(1, 2, 4, 8, 16).contains(alignment)
                || isOutside(content, 0, 999));
        badState(sections.size() == 24);
        Section section = new Section();
        section.number = sections.size();
        section.object = objects.get(object);
        section.isCode = isCode;
        section.size = size;
        section.alignment = alignment;
        section.content = content;
        section.isKept = isKept;
        sections.add(section);
        link = null;
        return section.number;
    }

    int define(int section, int name, int offset, char strength) {
        outOfBounds(isOutside(section, 0, sections.size() - 1));
        Section in = sections.get(section);
        badArgument(isOutside(name, 0, 15) || isOutside(offset, 0, in.size - 1) || "swl".indexOf(strength) < 0);
        badState(definitions().size() == 40 || in.definitions.containsKey(name));
        in.definitions.put(name, new Definition(in, name, offset, strength));
        link = null;
        return (int) definitions().stream().filter(definition -> definition.name == name).count();
    }

    private List<Definition> definitions() {
        List<Definition> all = new ArrayList<>();
        for (Section section : sections) {
            all.addAll(section.definitions.values());
        }
        return all;
    }

    int addCommon(int object, int name, int size) {
        outOfBounds(isOutside(object, 0, objects.size() - 1));
        badArgument(isOutside(name, 0, 15) || isOutside(size, 1, 64));
        Obj in = objects.get(object);
        badState(in.commons.containsKey(name));
        in.commons.put(name, new Common(in, name, size));
        link = null;
        return (int) objects.stream().filter(one -> one.commons.containsKey(name)).count();
    }

    int refer(int section, int offset, int name, char kind) {
        outOfBounds(isOutside(section, 0, sections.size() - 1));
        Section in = sections.get(section);
        badArgument(isOutside(offset, 0, in.size - 1) || isOutside(name, 0, 15) || "ca".indexOf(kind) < 0);
        badState(references.size() == 40 || in.references.size() == 4 || in.references.containsKey(offset));
        Reference reference = new Reference(in, references.size(), offset, name, kind);
        references.add(reference);
        in.references.put(offset, reference);
        link = null;
        return reference.number;
    }

    int setRooms(int code, int data) {
        badArgument(isOutside(code, 1, 999) || isOutside(data, 1, 999));
        int before = codeRoom;
        codeRoom = code;
        dataRoom = data;
        link = null;
        return before;
    }

    int setReach(int units) {
        badArgument(isOutside(units, 80, 999));
        int before = reach;
        reach = units;
        link = null;
        return before;
    }

    char link(int root) {
        badArgument(isOutside(root, 0, 15));
        link = null;
        Link made = new Link();
        take(made, root);
        for (int name = 0; name < 16; name++) {
            if (defining(made, name, 's').size() > 1) {
                return 'd';
            }
        }
        made.root = standsFor(made, root);
        for (Reference reference : references) {
            made.goals.put(reference, goalOf(made, reference));
        }
        if (made.root == null || !enliven(made)) {
            return 'u';
        }
        fold(made);
        lay(made);
        while (true) {
            Reference far = firstFar(made);
            if (far == null) {
                break;
            }
            made.islands.add(far);
            lay(made);
        }
        if (made.codeEnd > codeRoom || made.dataEnd > 1000 + dataRoom) {
            return 'r';
        }
        link = made;
        return '-';
    }

    private void take(Link made, int root) {
        for (Obj object : objects) {
            if (!object.isMember) {
                made.taken.add(object);
            }
        }
        boolean isSearching = true;
        while (isSearching) {
            isSearching = false;
            Set<Integer> open = openNames(made, root);
            for (Obj object : objects) {
                if (!made.taken.contains(object) && answers(object, open)) {
                    made.taken.add(object);
                    isSearching = true;
                    break;
                }
            }
        }
    }

    private boolean answers(Obj object, Set<Integer> open) {
        for (int name : open) {
            if (object.commons.containsKey(name)) {
                return true;
            }
        }
        return definitions().stream().anyMatch(definition -> definition.section.object == object
                && definition.strength == 's' && open.contains(definition.name));
    }

    private Set<Integer> openNames(Link made, int root) {
        Set<Integer> open = new TreeSet<>();
        open.add(root);
        for (Reference reference : references) {
            Obj object = reference.section.object;
            boolean isLocal = definitions().stream().anyMatch(definition -> definition.strength == 'l'
                    && definition.name == reference.name && definition.section.object == object);
            if (made.taken.contains(object) && !isLocal) {
                open.add(reference.name);
            }
        }
        open.removeIf(name -> standsFor(made, name) != null);
        return open;
    }

    /** By rising sections. */
    private List<Definition> defining(Link made, int name, char strength) {
        List<Definition> found = definitions();
        found.removeIf(definition -> definition.name != name || definition.strength != strength
                || !made.taken.contains(definition.section.object));
        return found;
    }

    private Goal standsFor(Link made, int name) {
        List<Definition> strong = defining(made, name, 's');
        if (!strong.isEmpty()) {
            return strong.get(0);
        }
        Common greatest = null;
        for (Obj object : objects) {
            Common common = object.commons.get(name);
            if (common != null && made.taken.contains(object) && (greatest == null || common.size > greatest.size)) {
                greatest = common;
            }
        }
        if (greatest != null) {
            return greatest;
        }
        List<Definition> weak = defining(made, name, 'w');
        return weak.isEmpty() ? null : weak.get(0);
    }

    private Goal goalOf(Link made, Reference reference) {
        for (Section section : sections) {
            Definition definition = section.definitions.get(reference.name);
            if (section.object == reference.section.object && definition != null && definition.strength == 'l') {
                return definition;
            }
        }
        return standsFor(made, reference.name);
    }

    private boolean enliven(Link made) {
        List<Goal> reached = new ArrayList<>();
        reached.add(made.root);
        for (Section section : sections) {
            if (section.isKept && made.taken.contains(section.object)) {
                reached.add(new Definition(section, 0, 0, '-'));
            }
        }
        for (int place = 0; place < reached.size(); place++) {
            Goal goal = reached.get(place);
            if (goal == null) {
                return false;
            }
            if (goal instanceof Common common) {
                made.livingCommons.add(common);
            } else if (goal instanceof Definition definition && made.living.add(definition.section)) {
                for (Reference reference : definition.section.references.values()) {
                    reached.add(made.goals.get(reference));
                }
            }
        }
        return true;
    }

    private void fold(Link made) {
        Set<Section> asked = new HashSet<>();
        for (Section section : made.living) {
            for (Reference reference : section.references.values()) {
                if (reference.kind == 'a' && made.goals.get(reference) instanceof Definition definition) {
                    asked.add(definition.section);
                }
            }
        }
        for (Section section : sections) {
            for (Section other : sections.subList(0, section.number)) {
                if (made.living.contains(section) && made.living.contains(other) && section.isCode && other.isCode
                        && !asked.contains(section) && !asked.contains(other)
                        && !made.folded.containsKey(other) && !made.folded.containsKey(section)
                        && shape(made, section).equals(shape(made, other))) {
                    made.folded.put(section, other);
                }
            }
        }
    }

    private List<Object> shape(Link made, Section section) {
        List<Object> shape = new ArrayList<>(List.of(section.size, section.alignment, section.content));
        for (Reference reference : section.references.values()) {
            shape.add(reference.offset);
            shape.add(reference.kind);
            shape.add(made.goals.get(reference));
        }
        return shape;
    }

    private boolean isLaid(Link made, Section section) {
        return made.living.contains(section) && !made.folded.containsKey(section);
    }

    private void lay(Link made) {
        int[] at = {0};
        for (Section section : sections) {
            if (section.isCode) {
                laySection(made, section, at);
            }
        }
        made.codeEnd = at[0];
        at[0] = 1000;
        for (Section section : sections) {
            if (!section.isCode) {
                laySection(made, section, at);
            }
        }
        List<Common> commons = new ArrayList<>(made.livingCommons);
        commons.sort(Comparator.comparingInt(Common::name));
        for (Common common : commons) {
            at[0] = up(at[0], 4);
            made.commonStarts.put(common, at[0]);
            at[0] += common.size;
        }
        made.dataEnd = at[0];
    }

    private void laySection(Link made, Section section, int[] at) {
        if (!isLaid(made, section)) {
            return;
        }
        at[0] = up(at[0], section.alignment);
        made.starts.put(section, at[0]);
        at[0] += section.size;
        for (Reference reference : made.islands) {
            if (reference.section == section) {
                made.islandStarts.put(reference, at[0]);
                at[0] += 2;
            }
        }
    }

    private static int up(int at, int alignment) {
        int up = at;
        while (up % alignment != 0) {
            up++;
        }
        return up;
    }

    private Section laidFor(Link made, Section section) {
        return made.folded.getOrDefault(section, section);
    }

    private int start(Link made, Goal goal) {
        if (goal instanceof Definition definition) {
            return made.starts.get(laidFor(made, definition.section)) + definition.offset;
        }
        return made.commonStarts.get(goal);
    }

    private Reference firstFar(Link made) {
        for (Section section : sections) {
            if (isLaid(made, section)) {
                for (Reference reference : section.references.values()) {
                    int place = made.starts.get(section) + reference.offset;
                    int goal = start(made, made.goals.get(reference));
                    if (reference.kind == 'c' && !made.islands.contains(reference)
                            && (goal - place > reach || place - goal > reach)) {
                        return reference;
                    }
                }
            }
        }
        return null;
    }

    boolean isTaken(int object) {
        outOfBounds(isOutside(object, 0, objects.size() - 1));
        badState(link == null);
        return link.taken.contains(objects.get(object));
    }

    char fate(int section) {
        outOfBounds(isOutside(section, 0, sections.size() - 1));
        badState(link == null);
        Section asked = sections.get(section);
        return !link.living.contains(asked) ? 'x' : link.folded.containsKey(asked) ? 'f' : 'l';
    }

    int address(int section) {
        outOfBounds(isOutside(section, 0, sections.size() - 1));
        badState(link == null);
        noElement(!link.living.contains(sections.get(section)));
        return link.starts.get(laidFor(link, sections.get(section)));
    }

    int addressOf(int name) {
        badArgument(isOutside(name, 0, 15));
        badState(link == null);
        Goal goal = standsFor(link, name);
        noElement(goal == null);
        noElement(goal instanceof Common && !link.livingCommons.contains(goal));
        noElement(goal instanceof Definition definition && !link.living.contains(definition.section));
        return start(link, goal);
    }

    int target(int reference) {
        outOfBounds(isOutside(reference, 0, references.size() - 1));
        badState(link == null);
        noElement(!link.living.contains(references.get(reference).section));
        Goal goal = link.goals.get(references.get(reference));
        return goal instanceof Definition definition ? laidFor(link, definition.section).number : -1;
    }

    int valueOf(int reference) {
        outOfBounds(isOutside(reference, 0, references.size() - 1));
        badState(link == null);
        noElement(!isLaid(link, references.get(reference).section));
        return value(references.get(reference));
    }

    private int value(Reference reference) {
        int goal = start(link, link.goals.get(reference));
        int place = link.starts.get(reference.section) + reference.offset;
        if (reference.kind == 'a') {
            return goal;
        }
        return (link.islands.contains(reference) ? link.islandStarts.get(reference) : goal) - place;
    }

    boolean hasIsland(int reference) {
        outOfBounds(isOutside(reference, 0, references.size() - 1));
        badState(link == null);
        return link.islands.contains(references.get(reference));
    }

    int islands() {
        badState(link == null);
        return link.islands.size();
    }

    int codeEnd() {
        badState(link == null);
        return link.codeEnd;
    }

    int dataEnd() {
        badState(link == null);
        return link.dataEnd;
    }

    long checksum() {
        badState(link == null);
        long sum = 0;
        for (Reference reference : references) {
            if (isLaid(link, reference.section)) {
                sum += (reference.number + 1L) * value(reference);
            }
        }
        return sum;
    }

    int run() {
        return perform()[0];
    }

    int steps() {
        return perform()[1];
    }

    private int[] perform() {
        badState(link == null);
        if (link.root instanceof Definition definition && definition.section.isCode) {
            int[] state = {0, 0};
            be(state, definition.section);
            return state;
        }
        return new int[] {999, 0};
    }

    private void be(int[] state, Section section) {
        state[1]++;
        state[0] = (31 * state[0] + section.content) % 1000003;
        for (Reference reference : section.references.values()) {
            if (reference.kind != 'c' || state[1] >= 100) {
                continue;
            }
            if (link.goals.get(reference) instanceof Definition definition && definition.section.isCode) {
                be(state, definition.section);
            } else {
                state[0] = (31 * state[0] + 999) % 1000003;
            }
        }
    }

    int addLibrary() {
        badState(libraries.size() == 8);
        libraries.add(new Library());
        return libraries.size() - 1;
    }

    private Library library(int number) {
        noElement(isOutside(number, 0, libraries.size() - 1));
        return libraries.get(number);
    }

    int provide(int library, int name, int version) {
        Library one = library(library);
        badArgument(isOutside(name, 0, 15) || isOutside(version, 1, 9));
        unsupported(standing.contains(library));
        Integer before = one.provided.put(name, version);
        return before == null ? 0 : before;
    }

    int need(int library, int other) {
        Library one = library(library);
        library(other);
        badArgument(library == other);
        unsupported(standing.contains(library));
        badState(one.needs.contains(other));
        one.needs.add(other);
        return one.needs.size();
    }

    int load(int library) {
        Library one = library(library);
        int before = standing.size();
        if (!standing.contains(library)) {
            put(library, new HashSet<>());
        }
        one.count++;
        return standing.size() - before;
    }

    private void put(int library, Set<Integer> beingPut) {
        beingPut.add(library);
        for (int other : libraries.get(library).needs) {
            if (!standing.contains(other) && !beingPut.contains(other)) {
                put(other, beingPut);
            }
        }
        standing.add(library);
        for (int other : libraries.get(library).needs) {
            libraries.get(other).count++;
        }
    }

    int unload(int library) {
        Library one = library(library);
        badState(one.count == 0);
        int[] counts = new int[libraries.size()];
        for (int number = 0; number < counts.length; number++) {
            counts[number] = libraries.get(number).count;
        }
        Set<Integer> left = new HashSet<>();
        lower(library, counts, left);
        for (Map.Entry<Binding, Integer> entry : bound.entrySet()) {
            unsupported(left.contains(entry.getValue()) && !left.contains(entry.getKey().library));
        }
        for (int number = 0; number < counts.length; number++) {
            libraries.get(number).count = counts[number];
        }
        standing.removeAll(left);
        bound.entrySet().removeIf(entry -> left.contains(entry.getKey().library) || left.contains(entry.getValue()));
        return left.size();
    }

    private void lower(int library, int[] counts, Set<Integer> left) {
        if (counts[library] == 0) {
            return;
        }
        counts[library]--;
        if (counts[library] == 0) {
            left.add(library);
            for (int other : libraries.get(library).needs.descendingSet()) {
                lower(other, counts, left);
            }
        }
    }

    int count(int library) {
        return library(library).count;
    }

    int loadedAt(int place) {
        outOfBounds(isOutside(place, 0, standing.size() - 1));
        return standing.get(place);
    }

    int bind(int library, int name, int version) {
        library(library);
        badArgument(isOutside(name, 0, 15) || isOutside(version, 1, 9));
        badState(!standing.contains(library));
        Binding binding = new Binding(library, name, version);
        if (!bound.containsKey(binding)) {
            for (int other : standing) {
                if (libraries.get(other).provided.getOrDefault(name, 0) >= version) {
                    bound.put(binding, other);
                    break;
                }
            }
        }
        unsupported(!bound.containsKey(binding));
        return bound.get(binding);
    }

    int bindings() {
        return bound.size();
    }

    int tell(boolean isHeld, boolean isAll) {
        refusals += isHeld ? 0 : 1;
        return refusals;
    }

    float laidShare() {
        badState(link == null);
        if (sections.isEmpty()) {
            throw new ArithmeticException();
        }
        return (float) link.starts.size() / (float) sections.size();
    }

    double meanSize() {
        badState(link == null);
        if (link.starts.isEmpty()) {
            throw new ArithmeticException();
        }
        int sum = 0;
        for (Section section : link.starts.keySet()) {
            sum += section.size;
        }
        return (double) sum / (double) link.starts.size();
    }

    boolean isSound() {
        badState(link == null);
        return true;
    }
}
