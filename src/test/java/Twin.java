/** Refused calls beside a twin: a second mill with the same past, on which the call is not tried. */
final class Twin {
    interface Maker {
        PaperMachine make();
    }

    interface Ask {
        Object of(PaperMachine mill);
    }

    private Twin() {
    }

    /** The call is refused with this exception, and what follows it is what follows without it. */
    static void refused(String what, String exception, Maker maker, Ask call) {
        PaperMachine asked = maker.make();
        Check.same(what, Check.told(() -> call.of(asked)), "throws." + exception);
        Check.same("what follows " + what, story(asked), story(maker.make()));
    }

    /** The call is answered so, and what follows it is what follows without it. */
    static void looks(String what, Object due, Maker maker, Ask call) {
        PaperMachine asked = maker.make();
        Check.same(what, Check.told(() -> call.of(asked)), String.valueOf(due));
        Check.same("what follows " + what, story(asked), story(maker.make()));
    }

    /**
     * All that can be seen of a mill, now and after calls that bring to light what no look shows:
     * orders of all grades show the direction, hours the share and the contract. It makes some
     * 250 calls, so that a mill with half as many behind it stays below its 512.
     */
    static String story(PaperMachine mill) {
        StringBuilder out = new StringBuilder(Check.look(mill));
        for (int grade = 0; grade < 6; grade++) {
            int g = grade;
            tell(out, () -> mill.order(g, 20, 1));
        }
        tell(out, mill::next);
        for (int grade = 0; grade < 2; grade++) {
            int g = grade;
            passOneByOne(out, mill, 5);
            tell(out, () -> mill.change(g));
        }
        passOneByOne(out, mill, 6);
        out.append(Check.look(mill));
        tell(out, () -> mill.setShare(11));
        tell(out, () -> mill.setContract(777, 7, 13));
        tell(out, () -> mill.setWidth(800));
        tell(out, () -> mill.addGrade(199));
        passOneByOne(out, mill, 1);
        return out.append(Check.look(mill)).toString();
    }

    private static void passOneByOne(StringBuilder out, PaperMachine mill, int hours) {
        for (int i = 0; i < hours; i++) {
            tell(out, () -> mill.pass(1));
        }
    }

    private static void tell(StringBuilder out, Check.Call call) {
        out.append(Check.told(call)).append(' ');
    }
}
