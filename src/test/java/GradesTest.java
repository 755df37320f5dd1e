/** Promises 2 to 8 in ordinary use: grades and changes. */
public final class GradesTest {
    private static final String INDEX = "IndexOutOfBoundsException";
    private static final String ARGUMENT = "IllegalArgumentException";
    private static final String STATE = "IllegalStateException";
    private static final String NONE = "NoSuchElementException";

    public static void main(String[] args) {
        addGrade();
        setWidth();
        changeHours();
        changeRefused();
        gradeAndChanging();
        nextWithoutGrade();
        nextInTheRing();
        nextAndTheDirection();
        mass();
        Check.end("GradesTest");
    }

    private static void addGrade() {
        PaperMachine mill = new PaperMachine();
        Check.same("a first grade", mill.addGrade(120), 0);
        Check.same("a second grade", mill.addGrade(60), 1);
        Check.refused("a taken weight", ARGUMENT, () -> mill.addGrade(120));
        Check.same("a third grade", mill.addGrade(90), 2);
        Check.same("mass(2)", mill.mass(2), 5400);
    }

    private static void setWidth() {
        PaperMachine mill = Mills.of(100);
        mill.order(0, 300, 1);
        Check.same("setWidth(500)", mill.setWidth(500), 600);
        Check.refused("setWidth(250) beside 300", STATE, () -> mill.setWidth(250));
        Check.same("setWidth(350)", mill.setWidth(350), 500);
        Check.same("trim of the width 350", mill.trim(0), 50);
    }

    private static void changeHours() {
        int[] heavier = {41, 79, 80, 81, 119, 120, 159, 160, 199, 200};
        int[] hours = {1, 1, 2, 2, 2, 3, 3, 4, 4, 5};
        for (int i = 0; i < heavier.length; i++) {
            PaperMachine up = Mills.of(40, heavier[i]);
            Check.same("the first change to 40", up.change(0), 1);
            up.pass(1);
            Check.same("a change from 40 to " + heavier[i], up.change(1), hours[i]);
            PaperMachine down = Mills.of(40, heavier[i]);
            Check.same("the first change to " + heavier[i], down.change(1), 1);
            down.pass(1);
            Check.same("a change from " + heavier[i] + " to 40", down.change(0), hours[i]);
        }
    }

    private static void changeRefused() {
        PaperMachine mill = Mills.of(80, 160, 120);
        Check.refused("change(-1)", INDEX, () -> mill.change(-1));
        Check.refused("change(3)", INDEX, () -> mill.change(3));
        mill.change(0);
        Check.refused("a change to that to which it is changing", ARGUMENT, () -> mill.change(0));
        Check.refused("a change while it is changing", STATE, () -> mill.change(1));
        Check.refused("change(3) while it is changing", INDEX, () -> mill.change(3));
        mill.pass(1);
        Check.refused("a change to the grade that it has", ARGUMENT, () -> mill.change(0));
        Check.same("a change when the first one is over", mill.change(1), 3);
        mill.pass(2);
        Check.refused("a change in the last hour of another", STATE, () -> mill.change(2));
        mill.pass(1);
        Check.same("a change when the second one is over", mill.change(2), 2);
    }

    private static void gradeAndChanging() {
        PaperMachine mill = Mills.of(80, 160);
        Check.refused("grade without one", NONE, mill::grade);
        mill.pass(1);
        Check.refused("grade without one after an hour", NONE, mill::grade);
        mill.change(0);
        Check.same("grade in the first change", mill.grade(), 0);
        Check.same("changing at first", mill.changing(), 1);
        mill.pass(1);
        Check.same("changing when it is over", mill.changing(), 0);
        mill.pass(5);
        Check.same("changing long after", mill.changing(), 0);
        mill.change(1);
        Check.same("grade in the second change", mill.grade(), 1);
        Check.same("changing in the second change", mill.changing(), 3);
        mill.pass(1);
        Check.same("changing after an hour of 3", mill.changing(), 2);
        mill.pass(2);
        Check.same("grade after the second change", mill.grade(), 1);
        Check.same("changing after 3 hours of 3", mill.changing(), 0);
    }

    private static void nextWithoutGrade() {
        PaperMachine mill = Mills.of(120, 60, 180, 40);
        Check.refused("next without orders", NONE, mill::next);
        mill.order(2, 100, 1);
        Check.same("next with orders of 180", mill.next(), 2);
        mill.order(0, 100, 1);
        Check.same("next with orders of 120 too", mill.next(), 0);
        mill.order(1, 100, 1);
        Check.same("next with orders of 60 too", mill.next(), 1);
        mill.cancel(2);
        Check.same("next when those of 60 are cancelled", mill.next(), 0);
    }

    private static void nextInTheRing() {
        PaperMachine mill = Mills.of(100, 140, 120, 60, 80, 180);
        Mills.goOver(mill, 0);
        Check.refused("next without other orders", NONE, mill::next);
        mill.order(0, 100, 1);
        Check.refused("next with orders of its own grade alone", NONE, mill::next);
        mill.order(3, 100, 1);
        Check.same("next, only 60 waits", mill.next(), 3);
        mill.order(4, 100, 1);
        Check.same("next, 60 and 80 wait", mill.next(), 4);
        mill.order(5, 100, 1);
        Check.same("next, 180 waits too", mill.next(), 5);
        mill.order(1, 100, 1);
        Check.same("next, 140 waits too", mill.next(), 1);
        mill.order(2, 100, 1);
        Check.same("next, 120 waits too", mill.next(), 2);
        mill.cancel(5);
        Check.same("next, 120 is cancelled", mill.next(), 1);
    }

    private static void nextAndTheDirection() {
        PaperMachine mill = Mills.of(100, 120, 80, 60, 160);
        for (int grade = 0; grade < 5; grade++) {
            mill.order(grade, 100, 50);
        }
        Mills.goOver(mill, 4);
        Mills.goOver(mill, 0);
        Check.same("next on the way down from 160 at 100", mill.next(), 2);
        Check.refused("a change to its own grade", ARGUMENT, () -> mill.change(0));
        Check.same("next after a refused change", mill.next(), 2);
        mill.change(3);
        Check.same("next at 60, nothing is below", mill.next(), 2);
        mill.pass(mill.changing());
        mill.change(1);
        Check.same("next on the way up, while it is changing to 120", mill.next(), 4);
        mill.pass(mill.changing());
        mill.cancel(4);
        Check.same("next at 120, nothing is above", mill.next(), 0);
        PaperMachine first = Mills.of(100, 120, 80);
        first.order(1, 100, 1);
        first.order(2, 100, 1);
        first.change(0);
        Check.same("next in the first change, the direction is up", first.next(), 1);
    }

    private static void mass() {
        PaperMachine mill = Mills.of(80, 199, 40);
        Check.same("mass of 80 by 600", mill.mass(0), 4800);
        Check.same("mass of 199 by 600", mill.mass(1), 11940);
        mill.setWidth(201);
        Check.same("mass of 199 by 201, rounded down", mill.mass(1), 3999);
        Check.same("mass of 40 by 201", mill.mass(2), 804);
        mill.setWidth(799);
        Check.same("mass of 199 by 799, rounded down", mill.mass(1), 15900);
        Check.refused("mass(-1)", INDEX, () -> mill.mass(-1));
        Check.refused("mass(3)", INDEX, () -> mill.mass(3));
        Check.refused("mass(greatest int)", INDEX, () -> mill.mass(Integer.MAX_VALUE));
    }
}
