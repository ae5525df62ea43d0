import java.util.TreeMap;

/** Many runs of calls, drawn by a counted generator: the class and the model answer alike. */
public final class ModelTest {
    private static final int RUNS = 1500;
    private static final int CALLS = 512;

    private final LinkerYard yard = new LinkerYard();
    private final Model model = new Model();
    private final TreeMap<String, Integer> seen;
    private long state;
    private final int names;
    private final int contents;
    private final int sizes;
    private final boolean isCalm;
    private final boolean isPrepared;
    private int calls;
    private int objects;
    private int sections;
    private int references;
    private int libraries;
    private final boolean[] isDataSection = new boolean[24];
    private final int[] referrers = new int[40];

    private ModelTest(long seed, TreeMap<String, Integer> seen) {
        this.seen = seen;
        state = seed * 7919 + 17;
        isCalm = draw(4) > 0;
        isPrepared = isCalm && draw(3) > 0;
        names = isCalm ? 3 + draw(5) : 3 + draw(14);
        contents = 1 + draw(4);
        sizes = 1 + draw(3);
    }

    public static void main(String[] args) {
        int runs = args.length > 0 ? Integer.parseInt(args[0]) : RUNS;
        TreeMap<String, Integer> seen = new TreeMap<>();
        for (int run = 0; run < runs; run++) {
            ModelTest test = new ModelTest(run, seen);
            test.prepare("run " + run + ", at first");
            while (test.calls < CALLS) {
                test.callOnce("run " + run + ", call " + test.calls);
            }
        }
        if (args.length > 0) {
            System.out.println(seen);
        }
        for (String what : new String[] {"link -", "link d", "link u", "link r", "folded", "island of code",
            "island of data", "unload refused", "isSound true"}) {
            Check.due("seen: " + what, true, () -> seen.getOrDefault(what, 0) > runs / 100);
        }
        Check.end();
    }

    private int draw(int bound) {
        state = state * 6364136223846793005L + 1442695040888963407L;
        return (int) ((state >>> 33) % bound);
    }

    private boolean chance(int percent) {
        return draw(100) < percent;
    }

    /** A number from 0 to most - 1, or seldom one outside of that. */
    private int number(int most) {
        if (chance(2)) {
            int[] odd = {-1, most, most + 1, Integer.MIN_VALUE, Integer.MAX_VALUE};
            return odd[draw(odd.length)];
        }
        return draw(Math.max(1, most));
    }

    private char letter(String letters) {
        return chance(2) ? 'x' : letters.charAt(draw(letters.length()));
    }

    private int known(int most) {
        return isCalm ? number(most) : number(most + 1);
    }

    /** Gives each name a definition, in a plain object or in a member, so that more links do not fail. */
    private void prepare(String where) {
        if (!isPrepared) {
            return;
        }
        for (int object = 0; object < 4; object++) {
            boolean isMember = object > 0;
            compare(where, "addObject(" + isMember + ")", () -> yard.addObject(isMember),
                    () -> objects(model.addObject(isMember)));
            section(where, object, object != 2, 16, false);
        }
        for (int name = 0; name < 16; name++) {
            int section = name >= names || chance(60) ? 0 : 1 + draw(3);
            define(where, section, name, draw(16), section == 0 && chance(80) ? 'w' : 's');
        }
    }

    private void callOnce(String where) {
        int kind = draw(100);
        if (kind < 22 || kind < 80 && calls < 100) {
            tell(where);
        } else if (kind < 36) {
            link(where);
        } else if (kind < 68) {
            ask(where);
        } else {
            library(where);
        }
    }

    private void compare(String where, String call, Check.Call got, Check.Call want) {
        if (calls == CALLS) {
            return;
        }
        calls++;
        String due = Check.told(want);
        Check.due(where + ": " + call, due, got);
        if (call.startsWith("link")) {
            seen.merge("link " + due, 1, Integer::sum);
            if (due.equals("-")) {
                noteMap();
                if (chance(25)) {
                    askAll(where);
                }
            }
        }
        if (call.startsWith("unload") && due.endsWith("UnsupportedOperationException")) {
            seen.merge("unload refused", 1, Integer::sum);
        }
        if (call.startsWith("isSound")) {
            seen.merge("isSound " + due, 1, Integer::sum);
        }
    }

    private void noteMap() {
        for (int object = 4; object < objects; object++) {
            seen.merge(model.isTaken(object) ? "taken" : "not taken", 1, Integer::sum);
        }
        seen.merge(model.steps() == 100 ? "100 steps" : model.steps() > 1 ? "more steps" : "few steps", 1, Integer::sum);
        for (int section = 0; section < sections; section++) {
            seen.merge(model.fate(section) == 'f' ? "folded" : "not folded", 1, Integer::sum);
        }
        for (int reference = 0; reference < references; reference++) {
            if (model.hasIsland(reference)) {
                seen.merge(isDataSection[referrers[reference]] ? "island of data" : "island of code", 1,
                        Integer::sum);
            }
        }
    }

    private void tell(String where) {
        int kind = draw(100);
        if (isCalm && chance(25)) {
            twin(where);
        } else if (kind < 12) {
            boolean isMember = chance(50);
            compare(where, "addObject(" + isMember + ")", () -> yard.addObject(isMember),
                    () -> objects(model.addObject(isMember)));
        } else if (kind < 42) {
            section(where);
        } else if (kind < 66) {
            int section = known(sections);
            int name = number(chance(90) ? names : 16);
            int offset = number(chance(90) ? 3 * sizes : 64);
            String strengths = isPrepared ? "wwwwwwwwwwwwwwwwwslll" : isCalm ? "wwwwwwwsll" : "sswl";
            define(where, section, name, offset, letter(strengths));
        } else if (kind < 72) {
            int object = known(objects);
            int name = number(names);
            int size = number(65);
            compare(where, "addCommon(" + object + ", " + name + ", " + size + ")",
                    () -> yard.addCommon(object, name, size), () -> model.addCommon(object, name, size));
        } else if (kind < 95) {
            reference(where);
        } else if (kind < 97) {
            int code = chance(50) ? 999 : number(1000);
            int data = chance(50) ? 999 : number(1000);
            compare(where, "setRooms(" + code + ", " + data + ")", () -> yard.setRooms(code, data),
                    () -> model.setRooms(code, data));
        } else {
            int reach = chance(80) ? 80 + draw(60) : number(1000);
            compare(where, "setReach(" + reach + ")", () -> yard.setReach(reach), () -> model.setReach(reach));
        }
    }

    private void define(String where, int section, int name, int offset, char strength) {
        compare(where, "define(" + section + ", " + name + ", " + offset + ", " + strength + ")",
                () -> yard.define(section, name, offset, strength),
                () -> model.define(section, name, offset, strength));
    }

    private int objects(int number) {
        objects = number + 1;
        return number;
    }

    private void section(String where) {
        int object = known(objects);
        boolean isCode = chance(70);
        int size = chance(70) ? 10 * sizes + draw(2) : number(65);
        section(where, object, isCode, size, chance(25));
    }

    private void section(String where, int object, boolean isCode, int size, boolean isKept) {
        int alignment = chance(3) ? number(17) : 1 << (chance(60) ? 2 : draw(5));
        int content = chance(90) ? draw(contents) : number(1000);
        compare(where, "addSection(" + object + ", " + isCode + ", " + size + ", " + alignment + ", " + content + ", "
                + isKept + ")", () -> yard.addSection(object, isCode, size, alignment, content, isKept), () -> {
                    int section = model.addSection(object, isCode, size, alignment, content, isKept);
                    sections = section + 1;
                    isDataSection[section] = !isCode;
                    return section;
                });
    }

    /** Two sections of one shape in one object, kept or called, whose references differ in one at most. */
    private void twin(String where) {
        int object = number(objects);
        int size = 8 + draw(2);
        int odd = draw(14);
        int[] goals = {draw(names), draw(names), draw(names), draw(names)};
        int all = draw(5);
        int shift = draw(2);
        for (int one = 0; one < 2; one++) {
            int before = sections;
            section(where, object, true, size, chance(70));
            if (sections == before) {
                return;
            }
            for (int place = 0; place < all; place++) {
                int told = one == 0 ? place : (place + shift) % all;
                boolean isOdd = one == 1 && told == odd;
                boolean isElse = isOdd && chance(50);
                refer(where, before, 2 * told + (isOdd && !isElse ? 1 : 0), isElse ? draw(names) : goals[told],
                        chance(10) ? 'a' : 'c');
            }
        }
    }

    private void reference(String where) {
        int section = known(sections);
        int offset = number(chance(90) ? 3 * sizes : 64);
        int name = number(chance(90) ? names : 16);
        refer(where, section, offset, name, letter("ccca"));
    }

    private void refer(String where, int section, int offset, int name, char kind) {
        compare(where, "refer(" + section + ", " + offset + ", " + name + ", " + kind + ")",
                () -> yard.refer(section, offset, name, kind), () -> {
                    int reference = model.refer(section, offset, name, kind);
                    references = reference + 1;
                    referrers[reference] = section;
                    return reference;
                });
    }

    private void link(String where) {
        int root = number(chance(80) ? names : 16);
        compare(where, "link(" + root + ")", () -> yard.link(root), () -> model.link(root));
    }

    private void ask(String where) {
        switch (draw(4)) {
            case 0 -> askFigure(where, draw(10));
            case 1 -> askReference(where, draw(4), known(references));
            default -> askPart(where, draw(4), draw(5));
        }
    }

    private void askAll(String where) {
        for (int kind = 0; kind < 10; kind++) {
            askFigure(where, kind);
        }
        for (int reference = 0; reference <= references; reference++) {
            for (int kind = 0; kind < 4; kind++) {
                askReference(where, kind, reference);
            }
        }
        for (int place = 0; place <= 24; place++) {
            askPart(where, 1, place);
            askPart(where, 2, place);
            if (place <= 16) {
                askPart(where, 0, place);
                askPart(where, 3, place);
            }
        }
    }

    private void askPart(String where, int kind, int number) {
        switch (kind) {
            case 0 -> compare(where, "isTaken(" + number + ")", () -> yard.isTaken(number),
                    () -> model.isTaken(number));
            case 1 -> compare(where, "fate(" + number + ")", () -> yard.fate(number), () -> model.fate(number));
            case 2 -> compare(where, "address(" + number + ")", () -> yard.address(number),
                    () -> model.address(number));
            default -> compare(where, "addressOf(" + number + ")", () -> yard.addressOf(number),
                    () -> model.addressOf(number));
        }
    }

    private void askReference(String where, int kind, int number) {
        switch (kind) {
            case 0 -> compare(where, "target(" + number + ")", () -> yard.target(number),
                    () -> model.target(number));
            case 1 -> compare(where, "targetAnew(" + number + ")", () -> yard.targetAnew(number),
                    () -> model.target(number));
            case 2 -> compare(where, "valueOf(" + number + ")", () -> yard.valueOf(number),
                    () -> model.valueOf(number));
            default -> compare(where, "hasIsland(" + number + ")", () -> yard.hasIsland(number),
                    () -> model.hasIsland(number));
        }
    }

    private void askFigure(String where, int kind) {
        switch (kind) {
            case 0 -> compare(where, "islands()", yard::islands, model::islands);
            case 1 -> compare(where, "codeEnd()", yard::codeEnd, model::codeEnd);
            case 2 -> compare(where, "dataEnd()", yard::dataEnd, model::dataEnd);
            case 3 -> compare(where, "checksum()", yard::checksum, model::checksum);
            case 4 -> compare(where, "run()", yard::run, model::run);
            case 5 -> compare(where, "runPlain()", yard::runPlain, model::run);
            case 6 -> compare(where, "steps()", yard::steps, model::steps);
            case 7 -> compare(where, "laidShare()", yard::laidShare, model::laidShare);
            case 8 -> compare(where, "meanSize()", yard::meanSize, model::meanSize);
            default -> compare(where, "isSound()", yard::isSound, model::isSound);
        }
    }

    private void library(String where) {
        int library = known(libraries);
        int other = known(libraries);
        int name = number(names);
        int version = 1 + number(9);
        switch (draw(14)) {
            case 0 -> compare(where, "addLibrary()", yard::addLibrary, () -> {
                int number = model.addLibrary();
                libraries = number + 1;
                return number;
            });
            case 1, 2 -> compare(where, "provide(" + library + ", " + name + ", " + version + ")",
                    () -> yard.provide(library, name, version), () -> model.provide(library, name, version));
            case 3, 4 -> compare(where, "need(" + library + ", " + other + ")", () -> yard.need(library, other),
                    () -> model.need(library, other));
            case 5 -> compare(where, "load(" + library + ")", () -> yard.load(library), () -> model.load(library));
            case 6, 7, 8 -> compare(where, "unload(" + library + ")", () -> yard.unload(library),
                    () -> model.unload(library));
            case 9 -> compare(where, "count(" + library + ")", () -> yard.count(library),
                    () -> model.count(library));
            case 10 -> compare(where, "loadedAt(" + other + ")", () -> yard.loadedAt(other),
                    () -> model.loadedAt(other));
            case 11 -> compare(where, "bind(" + library + ", " + name + ", " + version + ")",
                    () -> yard.bind(library, name, version), () -> model.bind(library, name, version));
            case 12 -> compare(where, "bindings()", yard::bindings, model::bindings);
            default -> compare(where, "tell()", () -> yard.tell(name % 2 == 0, version % 2 == 0),
                    () -> model.tell(name % 2 == 0, version % 2 == 0));
        }
    }
}
