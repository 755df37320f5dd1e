import java.util.List;

/** What the tests share: each prints every answer that is not as due, and ends with 1 if there was one. */
final class Check {
    interface Call {
        Object go();
    }

    private static final List<String> DOCUMENTED = List.of("IllegalArgumentException",
            "IllegalStateException", "IndexOutOfBoundsException", "NoSuchElementException",
            "UnsupportedOperationException", "ArithmeticException");

    private static String sentence = "";
    private static int sentences = 0;
    private static int asked = 0;
    private static int wrong = 0;

    private Check() {
    }

    /** Names the sentence of the document that the answers from here on rest on. */
    static void sentence(String where, String words) {
        sentence = where + ": \"" + words + "\": ";
        sentences++;
    }

    static void same(String what, long got, long due) {
        asked++;
        if (got != due) {
            tell(what + " answered " + got + ", due is " + due);
        }
    }

    static void same(String what, double got, double due) {
        asked++;
        if (Double.compare(got, due) != 0) {
            tell(what + " answered " + got + ", due is " + due);
        }
    }

    static void same(String what, String got, String due) {
        asked++;
        if (!got.equals(due)) {
            tell(what + " answered " + got + ", due is " + due);
        }
    }

    /** The call's answer as a text; an exception is told by its name behind "throws.". */
    static String told(Call call) {
        try {
            return String.valueOf(call.go());
        } catch (RuntimeException e) {
            if (isOfTheMachine(e)) {
                tell("the Java machine itself threw " + e);
            }
            return "throws." + e.getClass().getSimpleName();
        }
    }

    private static boolean isOfTheMachine(RuntimeException e) {
        return !DOCUMENTED.contains(e.getClass().getSimpleName()) || "/ by zero".equals(e.getMessage());
    }

    static void refused(String what, String exception, Call call) {
        same(what, told(call), "throws." + exception);
    }

    /** All that can be seen of a mill, as one text. */
    static String look(PaperMachine mill) {
        StringBuilder out = new StringBuilder();
        put(out, "grade", mill::grade);
        put(out, "changing", mill::changing);
        put(out, "next", mill::next);
        put(out, "hours", mill::hours);
        put(out, "broke", mill::broke);
        put(out, "brokeByHours", mill::brokeByHours);
        put(out, "fresh", mill::fresh);
        put(out, "paper", mill::paper);
        put(out, "lost", mill::lost);
        put(out, "steamCost", mill::steamCost);
        put(out, "paperShare", mill::paperShare);
        put(out, "meanTrim", mill::meanTrim);
        for (int i = 0; i < 6; i++) {
            int g = i;
            put(out, "mass " + g, () -> mill.mass(g));
            put(out, "trim " + g, () -> mill.trim(g));
            put(out, "trimByTable " + g, () -> mill.trimByTable(g));
            put(out, "leastHours " + g, () -> mill.leastHours(g));
        }
        for (int i = 0; i < 10; i++) {
            int o = i;
            put(out, "cut " + o, () -> mill.cut(o));
            put(out, "lacks " + o, () -> mill.lacks(o));
            put(out, "inCut " + o, () -> mill.inCut(o));
        }
        if (mill.hours() > 0) {
            put(out, "made", () -> mill.made(mill.hours() - 1));
        }
        return out.toString();
    }

    private static void put(StringBuilder out, String name, Call call) {
        out.append(name).append('=').append(told(call)).append(' ');
    }

    private static void tell(String line) {
        wrong++;
        if (wrong <= 50) {
            System.out.println(sentence + line);
        }
    }

    static void end(String test) {
        String read = sentences == 0 ? "" : sentences + " sentences, ";
        System.out.println(test + ": " + read + asked + " answers, " + wrong + " not as due");
        if (wrong != 0 || asked == 0) {
            System.exit(1);
        }
    }
}
