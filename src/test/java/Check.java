/** Compares answers with those that are due, and counts the ones that are not. */
final class Check {
    /** A call whose answer is compared. */
    interface Call {
        Object answer();
    }

    private static int wrong = 0;
    private static int asked = 0;
    private static int sentences = 0;
    private static String sentence = "";

    private Check() {
    }

    /** Names the sentence of the document that the answers behind this are about. */
    static void sentence(String words) {
        sentences++;
        sentence = words + " | ";
    }

    /** The answer of a call, or the name of what it throws. */
    static String told(Call call) {
        try {
            return String.valueOf(call.answer());
        } catch (RuntimeException thrown) {
            return "throws " + thrown.getClass().getSimpleName();
        }
    }

    static void due(String what, Object want, Call call) {
        asked++;
        String got = told(call);
        if (!got.equals(String.valueOf(want))) {
            wrong++;
            System.out.println(sentence + what + " answered " + got + ", due is " + want);
        }
    }

    static void dueOutOfBounds(String what, Call call) {
        due(what, "throws IndexOutOfBoundsException", call);
    }

    static void dueBadArgument(String what, Call call) {
        due(what, "throws IllegalArgumentException", call);
    }

    static void dueBadState(String what, Call call) {
        due(what, "throws IllegalStateException", call);
    }

    static void dueNoElement(String what, Call call) {
        due(what, "throws NoSuchElementException", call);
    }

    static void dueUnsupported(String what, Call call) {
        due(what, "throws UnsupportedOperationException", call);
    }

    static void dueArithmetic(String what, Call call) {
        due(what, "throws ArithmeticException", call);
    }

    /** Says how it went, and ends with exit code 1 if an answer was not as due. */
    static void end() {
        String about = sentences == 0 ? "" : " about " + sentences + " sentences";
        System.out.println(asked + " answers asked" + about + ", " + wrong + " not as due");
        if (wrong != 0) {
            System.exit(1);
        }
    }
}
