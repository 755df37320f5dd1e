/** Promises 1 to 8: a new object, grades and changes. */
public final class GradesTest {
    private static final String INDEX = "IndexOutOfBoundsException";
    private static final String ARGUMENT = "IllegalArgumentException";
    private static final String STATE = "IllegalStateException";
    private static final String NONE = "NoSuchElementException";

    private static PaperMachine mill(int... weights) {
        PaperMachine mill = new PaperMachine();
        for (int weight : weights) {
            mill.addGrade(weight);
        }
        return mill;
    }

    /** Goes over to a grade and lets the hours of the change pass. */
    private static void goOver(PaperMachine mill, int grade) {
        mill.pass(mill.change(grade));
    }

    public static void main(String[] args) {
        newObject();
        addGrade();
        setWidth();
        setWidthBesideOrders();
        changeHours();
        changeRefused();
        gradeAndChanging();
        nextWithoutGrade();
        nextInTheRing();
        nextAndTheDirection();
        nextByOne();
        mass();
        Check.end("GradesTest");
    }

    private static void newObject() {
        PaperMachine mill = new PaperMachine();
        Check.same("hours of a new mill", mill.hours(), 0);
        Check.same("changing of a new mill", mill.changing(), 0);
        Check.same("broke of a new mill", mill.broke(), 0);
        Check.same("brokeByHours of a new mill", mill.brokeByHours(), 0);
        Check.same("fresh of a new mill", mill.fresh(), 0);
        Check.same("paper of a new mill", mill.paper(), 0);
        Check.same("lost of a new mill", mill.lost(), 0);
        Check.same("steamCost of a new mill", mill.steamCost(), 0);
        Check.refused("grade of a new mill", NONE, mill::grade);
        Check.refused("next of a new mill", NONE, mill::next);
        Check.refused("mass(0) of a new mill", INDEX, () -> mill.mass(0));
        Check.refused("cut(0) of a new mill", INDEX, () -> mill.cut(0));
        Check.refused("made(0) of a new mill", INDEX, () -> mill.made(0));
        Check.same("the first width", mill.setWidth(700), 600);
        Check.same("the first share", mill.setShare(1), 20);
        Check.same("the first limit", mill.setContract(1, 1, 1), 2000);
    }

    private static void addGrade() {
        PaperMachine mill = new PaperMachine();
        Check.refusedUnchanged(mill, "addGrade(39)", ARGUMENT, () -> mill.addGrade(39));
        Check.refusedUnchanged(mill, "addGrade(201)", ARGUMENT, () -> mill.addGrade(201));
        Check.refusedUnchanged(mill, "addGrade(-40)", ARGUMENT, () -> mill.addGrade(-40));
        Check.refusedUnchanged(mill, "addGrade(least int)", ARGUMENT, () -> mill.addGrade(Integer.MIN_VALUE));
        Check.refusedUnchanged(mill, "addGrade(greatest int)", ARGUMENT, () -> mill.addGrade(Integer.MAX_VALUE));
        Check.same("addGrade(40)", mill.addGrade(40), 0);
        Check.same("addGrade(200)", mill.addGrade(200), 1);
        Check.refusedUnchanged(mill, "addGrade(40) again", ARGUMENT, () -> mill.addGrade(40));
        Check.refusedUnchanged(mill, "addGrade(200) again", ARGUMENT, () -> mill.addGrade(200));
        Check.same("addGrade(41)", mill.addGrade(41), 2);
        Check.same("addGrade(60)", mill.addGrade(60), 3);
        Check.same("addGrade(70)", mill.addGrade(70), 4);
        Check.same("addGrade(80)", mill.addGrade(80), 5);
        Check.refusedUnchanged(mill, "a seventh grade", STATE, () -> mill.addGrade(90));
        Check.refusedUnchanged(mill, "a seventh of a taken weight", ARGUMENT, () -> mill.addGrade(80));
        Check.refusedUnchanged(mill, "a seventh out of range", ARGUMENT, () -> mill.addGrade(201));
        Check.same("mass(5)", mill.mass(5), 4800);
    }

    private static void setWidth() {
        PaperMachine mill = mill(100);
        Check.refusedUnchanged(mill, "setWidth(199)", ARGUMENT, () -> mill.setWidth(199));
        Check.refusedUnchanged(mill, "setWidth(801)", ARGUMENT, () -> mill.setWidth(801));
        Check.refusedUnchanged(mill, "setWidth(-1)", ARGUMENT, () -> mill.setWidth(-1));
        Check.same("setWidth(200)", mill.setWidth(200), 600);
        Check.same("setWidth(800)", mill.setWidth(800), 200);
        Check.same("setWidth(800) again", mill.setWidth(800), 800);
        Check.same("trim of the width 800", mill.trim(0), 800);
    }

    private static void setWidthBesideOrders() {
        PaperMachine mill = mill(100, 50);
        mill.order(1, 300, 1);
        mill.order(0, 250, 1);
        Check.refusedUnchanged(mill, "setWidth(299) beside 300", STATE, () -> mill.setWidth(299));
        Check.refusedUnchanged(mill, "setWidth(199) beside 300", ARGUMENT, () -> mill.setWidth(199));
        Check.same("setWidth(300) beside 300", mill.setWidth(300), 600);
        mill.cancel(0);
        Check.same("setWidth(250) beside a cancelled 300", mill.setWidth(250), 300);
        Check.refusedUnchanged(mill, "setWidth(249) beside 250", STATE, () -> mill.setWidth(249));
        goOver(mill, 0);
        mill.pass(1);
        Check.same("setWidth(200) beside a 250 that is cut", mill.setWidth(200), 250);
    }

    private static void changeHours() {
        int[] heavier = {41, 79, 80, 81, 119, 120, 159, 160, 199, 200};
        int[] hours = {1, 1, 2, 2, 2, 3, 3, 4, 4, 5};
        for (int i = 0; i < heavier.length; i++) {
            PaperMachine up = mill(40, heavier[i]);
            Check.same("the first change to 40", up.change(0), 1);
            up.pass(1);
            Check.same("a change from 40 to " + heavier[i], up.change(1), hours[i]);
            PaperMachine down = mill(40, heavier[i]);
            Check.same("the first change to " + heavier[i], down.change(1), 1);
            down.pass(1);
            Check.same("a change from " + heavier[i] + " to 40", down.change(0), hours[i]);
        }
    }

    private static void changeRefused() {
        PaperMachine mill = mill(80, 160, 120);
        Check.refusedUnchanged(mill, "change(-1)", INDEX, () -> mill.change(-1));
        Check.refusedUnchanged(mill, "change(3)", INDEX, () -> mill.change(3));
        mill.change(0);
        Check.refusedUnchanged(mill, "a change to that to which it is changing", ARGUMENT, () -> mill.change(0));
        Check.refusedUnchanged(mill, "a change while it is changing", STATE, () -> mill.change(1));
        Check.refusedUnchanged(mill, "change(3) while it is changing", INDEX, () -> mill.change(3));
        mill.pass(1);
        Check.refusedUnchanged(mill, "a change to the grade that it has", ARGUMENT, () -> mill.change(0));
        Check.same("a change when the first one is over", mill.change(1), 3);
        mill.pass(2);
        Check.refusedUnchanged(mill, "a change in the last hour of another", STATE, () -> mill.change(2));
        mill.pass(1);
        Check.same("a change when the second one is over", mill.change(2), 2);
    }

    private static void gradeAndChanging() {
        PaperMachine mill = mill(80, 160);
        Check.refused("grade without one", NONE, mill::grade);
        mill.pass(1);
        Check.refused("grade without one after an hour", NONE, mill::grade);
        mill.change(0);
        Check.same("grade in the first change", mill.grade(), 0);
        Check.same("changing at first", mill.changing(), 1);
        mill.pass(1);
        Check.same("changing when it is over", mill.changing(), 0);
        mill.pass(5);
        Check.same("changing long after", mill.changing(), 0);
        mill.change(1);
        Check.same("grade in the second change", mill.grade(), 1);
        Check.same("changing in the second change", mill.changing(), 3);
        mill.pass(1);
        Check.same("changing after an hour of 3", mill.changing(), 2);
        mill.pass(2);
        Check.same("grade after the second change", mill.grade(), 1);
        Check.same("changing after 3 hours of 3", mill.changing(), 0);
    }

    private static void nextWithoutGrade() {
        PaperMachine mill = mill(120, 60, 180, 40);
        Check.refused("next without orders", NONE, mill::next);
        mill.order(2, 100, 1);
        Check.same("next with orders of 180", mill.next(), 2);
        mill.order(0, 100, 1);
        Check.same("next with orders of 120 too", mill.next(), 0);
        mill.order(1, 100, 1);
        Check.same("next with orders of 60 too", mill.next(), 1);
        mill.cancel(2);
        Check.same("next when those of 60 are cancelled", mill.next(), 0);
    }

    private static void nextInTheRing() {
        PaperMachine mill = mill(100, 140, 120, 60, 80, 180);
        goOver(mill, 0);
        Check.refused("next without other orders", NONE, mill::next);
        mill.order(0, 100, 1);
        Check.refused("next with orders of its own grade alone", NONE, mill::next);
        mill.order(3, 100, 1);
        Check.same("next, only 60 waits", mill.next(), 3);
        mill.order(4, 100, 1);
        Check.same("next, 60 and 80 wait", mill.next(), 4);
        mill.order(5, 100, 1);
        Check.same("next, 180 waits too", mill.next(), 5);
        mill.order(1, 100, 1);
        Check.same("next, 140 waits too", mill.next(), 1);
        mill.order(2, 100, 1);
        Check.same("next, 120 waits too", mill.next(), 2);
        mill.cancel(5);
        Check.same("next, 120 is cancelled", mill.next(), 1);
    }

    private static void nextAndTheDirection() {
        PaperMachine mill = mill(100, 120, 80, 60, 160);
        for (int grade = 0; grade < 5; grade++) {
            mill.order(grade, 100, 50);
        }
        goOver(mill, 4);
        goOver(mill, 0);
        Check.same("next on the way down from 160 at 100", mill.next(), 2);
        Check.refused("a change to its own grade", ARGUMENT, () -> mill.change(0));
        Check.same("next after a refused change", mill.next(), 2);
        mill.change(3);
        Check.same("next at 60, nothing is below", mill.next(), 2);
        mill.pass(mill.changing());
        mill.change(1);
        Check.same("next on the way up, while it is changing to 120", mill.next(), 4);
        mill.pass(mill.changing());
        mill.cancel(4);
        Check.same("next at 120, nothing is above", mill.next(), 0);
        PaperMachine first = mill(100, 120, 80);
        first.order(1, 100, 1);
        first.order(2, 100, 1);
        first.change(0);
        Check.same("next in the first change, the direction is up", first.next(), 1);
    }

    private static void nextByOne() {
        PaperMachine mill = mill(100, 101, 99);
        for (int grade = 0; grade < 3; grade++) {
            mill.order(grade, 100, 1);
        }
        goOver(mill, 2);
        Check.same("next at 99, still up", mill.next(), 0);
        goOver(mill, 1);
        Check.same("next at 101, nothing is above", mill.next(), 0);
        goOver(mill, 0);
        Check.same("next at 100 after 101", mill.next(), 2);
        goOver(mill, 2);
        goOver(mill, 0);
        Check.same("next at 100 after 99", mill.next(), 1);
    }

    private static void mass() {
        PaperMachine mill = mill(80, 199, 40);
        Check.same("mass of 80 by 600", mill.mass(0), 4800);
        Check.same("mass of 199 by 600", mill.mass(1), 11940);
        mill.setWidth(201);
        Check.same("mass of 199 by 201, rounded down", mill.mass(1), 3999);
        Check.same("mass of 40 by 201", mill.mass(2), 804);
        mill.setWidth(799);
        Check.same("mass of 199 by 799, rounded down", mill.mass(1), 15900);
        Check.refusedUnchanged(mill, "mass(-1)", INDEX, () -> mill.mass(-1));
        Check.refusedUnchanged(mill, "mass(3)", INDEX, () -> mill.mass(3));
        Check.refusedUnchanged(mill, "mass(greatest int)", INDEX, () -> mill.mass(Integer.MAX_VALUE));
    }
}
