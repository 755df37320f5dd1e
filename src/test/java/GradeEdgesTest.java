/**
 * Grades and changes at their edges, promises 1 to 8: for each sentence of the document that names
 * an edge a test of its own, which begins with the sentence.
 */
public final class GradeEdgesTest {
    private static final String INDEX = "IndexOutOfBoundsException";
    private static final String ARGUMENT = "IllegalArgumentException";
    private static final String STATE = "IllegalStateException";
    private static final String NONE = "NoSuchElementException";
    private static final int[] NO_GRADES = {-1, 6, 7, Integer.MAX_VALUE, Integer.MIN_VALUE};

    public static void main(String[] args) {
        termsOfGrades();
        termsOfChanges();
        newObject();
        addGrade();
        setWidth();
        change();
        grade();
        changing();
        next();
        mass();
        Check.end("GradeEdgesTest");
    }

    private static void termsOfGrades() {
        gradesFromZero();
        leastAndGreatestWeight();
        weightsBesideATakenOne();
        leastAndGreatestWidth();
        widthAtFirst();
        gradeAtFirst();
        massRoundedDown();
        leastAndGreatestMass();
    }

    private static void termsOfChanges() {
        changeOfLessThan40();
        changeOfEachFull40();
        firstChange();
        changeMakesBrokeAlone();
        directionAtFirst();
        directionIsUp();
        directionIsDown();
    }

    private static void addGrade() {
        addGradeOutOfRange();
        addGradeTaken();
        addGradeFull();
        addGradeOrder();
    }

    private static void setWidth() {
        setWidthBefore();
        setWidthOutOfRange();
        setWidthBelowAnOrder();
        setWidthBelowAClosedOrder();
        setWidthOrder();
    }

    private static void change() {
        changeToNoGrade();
        changeToItsOwn();
        changeToThatOfTheChange();
        changeWhileChanging();
        changeOrder();
    }

    private static void next() {
        nextIsAnother();
        nextHasOpenOrders();
        nextIsTheNearest();
        nextInTheOtherDirection();
        nextWithoutAGrade();
        nextIsNone();
    }

    // ---- the terms of grades

    private static void gradesFromZero() {
        Check.sentence("Grades", "At most 6 grades are numbered from 0");
        PaperMachine mill = new PaperMachine();
        for (int i = 0; i < 6; i++) {
            Check.same("grade " + i, mill.addGrade(45 + 10 * i), i);
        }
        for (int i = 0; i < 6; i++) {
            Check.same("mass(" + i + ")", mill.mass(i), 60 * (45 + 10 * i));
        }
    }

    private static void leastAndGreatestWeight() {
        Check.sentence("Grades", "each has a weight from 40 to 200");
        for (int weight : new int[] {40, 41, 199, 200}) {
            PaperMachine mill = new PaperMachine();
            Check.same("addGrade(" + weight + ")", mill.addGrade(weight), 0);
            Check.same("its mass", mill.mass(0), 60 * weight);
        }
    }

    private static void weightsBesideATakenOne() {
        Check.sentence("Grades", "which no other grade has");
        PaperMachine mill = Mills.of(100);
        Check.same("addGrade(101) beside 100", mill.addGrade(101), 1);
        Check.same("addGrade(99) beside 100", mill.addGrade(99), 2);
        Check.same("addGrade(100) on another mill", Mills.of(99, 101).addGrade(100), 2);
    }

    private static void leastAndGreatestWidth() {
        Check.sentence("Grades", "The machine has a width from 200 to 800");
        for (int width : new int[] {200, 201, 799, 800}) {
            PaperMachine mill = Mills.of(100);
            mill.setWidth(width);
            Check.same("the mass at the width " + width, mill.mass(0), 10 * width);
            Check.same("the trim at the width " + width, mill.trim(0), width);
        }
    }

    private static void widthAtFirst() {
        Check.sentence("Grades", "at first 600");
        Check.same("the first width", Mills.of(100).trim(0), 600);
        Check.same("setWidth of a new mill", new PaperMachine().setWidth(600), 600);
    }

    private static void gradeAtFirst() {
        Check.sentence("Grades", "and a grade, at first none");
        PaperMachine mill = Mills.of(100);
        Check.refused("grade with one grade written", NONE, mill::grade);
        mill.order(0, 100, 1);
        Check.same("pass with an order of it", mill.pass(1), 0);
        Check.same("what this hour made", mill.made(0), 'n');
    }

    private static void massRoundedDown() {
        Check.sentence("Grades", "its weight times the width, divided by 10, rounded down");
        PaperMachine mill = Mills.of(40, 41, 43, 53);
        mill.setWidth(203);
        Check.same("40 * 203 = 8120", mill.mass(0), 812);
        Check.same("41 * 203 = 8323", mill.mass(1), 832);
        Check.same("43 * 203 = 8729", mill.mass(2), 872);
        Check.same("53 * 203 = 10759", mill.mass(3), 1075);
        mill.setWidth(207);
        Check.same("43 * 207 = 8901", mill.mass(2), 890);
    }

    private static void leastAndGreatestMass() {
        Check.sentence("Grades", "The mass of an hour of a grade");
        PaperMachine mill = Mills.withAllGrades();
        mill.setWidth(200);
        Check.same("the least mass", mill.mass(0), 800);
        mill.setWidth(800);
        Check.same("the greatest mass", mill.mass(5), 16000);
    }

    // ---- the terms of changes

    private static int hoursOfAChange(int from, int to) {
        PaperMachine mill = Mills.running(600, from, to);
        int hours = mill.change(1);
        Check.same("changing from " + from + " to " + to, mill.changing(), hours);
        return hours;
    }

    private static void changeOfLessThan40() {
        Check.sentence("Changes", "A change to another grade takes 1 hour");
        for (int by : new int[] {1, 2, 20, 38, 39}) {
            Check.same("a change by " + by + " up", hoursOfAChange(100, 100 + by), 1);
            Check.same("a change by " + by + " down", hoursOfAChange(100, 100 - by), 1);
        }
    }

    private static void changeOfEachFull40() {
        Check.sentence("Changes", "and 1 more for each full 40 by which both weights differ");
        for (int full = 1; full <= 4; full++) {
            int by = 40 * full;
            Check.same("a change by " + by + " up", hoursOfAChange(40, 40 + by), 1 + full);
            Check.same("a change by " + by + " down", hoursOfAChange(200, 200 - by), 1 + full);
            Check.same("a change by " + (by - 1) + " up", hoursOfAChange(40, 39 + by), full);
            Check.same("a change by " + (by - 1) + " down", hoursOfAChange(200, 201 - by), full);
        }
        Check.same("a change by 119 at the end", hoursOfAChange(81, 200), 3);
        Check.same("a change by 121 at the end", hoursOfAChange(79, 200), 4);
    }

    private static void firstChange() {
        Check.sentence("Changes", "the first grade that is chosen takes 1 hour");
        for (int grade = 0; grade < 6; grade++) {
            PaperMachine mill = Mills.withAllGrades();
            Check.same("the first change, to grade " + grade, mill.change(grade), 1);
            Check.same("changing", mill.changing(), 1);
            mill.pass(1);
            Check.same("changing when it is over", mill.changing(), 0);
        }
    }

    private static void changeMakesBrokeAlone() {
        Check.sentence("Changes", "all that is made is broke, by the mass of the new grade");
        PaperMachine mill = Mills.of(100, 200, 160);
        for (int grade = 0; grade < 3; grade++) {
            mill.order(grade, 300, 1);
        }
        mill.setShare(0);
        Check.same("rolls of the first change", mill.pass(mill.change(0)), 0);
        Check.same("broke of the first change", mill.broke(), 6000);
        Check.same("rolls of a change up", mill.pass(mill.change(1)), 0);
        Check.same("broke of 3 hours of a change up", mill.broke(), 6000 + 3 * 12000);
        Check.same("rolls of a change down", mill.pass(mill.change(2)), 0);
        Check.same("broke of 2 hours of a change down", mill.broke(), 42000 + 2 * 9600);
        Check.same("paper of changes", mill.paper(), 0);
    }

    /** Grades of 100, 101 and 99 that all have an open order. */
    private static PaperMachine neighbours() {
        PaperMachine mill = Mills.of(100, 101, 99);
        for (int grade = 0; grade < 3; grade++) {
            mill.order(grade, 100, 50);
        }
        return mill;
    }

    private static void directionAtFirst() {
        Check.sentence("Changes", "The machine has a direction, up or down, at first up");
        PaperMachine mill = neighbours();
        mill.change(0);
        Check.same("next in the first change", mill.next(), 1);
        mill.pass(1);
        Check.same("next after the first change", mill.next(), 1);
    }

    private static void directionIsUp() {
        Check.sentence("Changes", "by a change from a grade, it is up if the new grade is heavier");
        PaperMachine mill = neighbours();
        Mills.goOver(mill, 1);
        Mills.goOver(mill, 2);
        mill.pass(1);
        Mills.goOver(mill, 0);
        Check.same("next at 100 that came from 99", mill.next(), 1);
    }

    private static void directionIsDown() {
        Check.sentence("Changes", "and down if it is lighter");
        PaperMachine mill = neighbours();
        Mills.goOver(mill, 1);
        Mills.goOver(mill, 0);
        Check.same("next at 100 that came from 101", mill.next(), 2);
    }

    // ---- promises 1 and 2

    private static void newObject() {
        Check.sentence("PaperMachine", "Creates a mill without grades and orders, at the hour 0.");
        PaperMachine mill = new PaperMachine();
        Check.same("hours", mill.hours(), 0);
        Check.same("changing", mill.changing(), 0);
        Check.same("broke", mill.broke(), 0);
        Check.same("brokeByHours", mill.brokeByHours(), 0);
        Check.same("fresh", mill.fresh(), 0);
        Check.same("paper", mill.paper(), 0);
        Check.same("lost", mill.lost(), 0);
        Check.same("steamCost", mill.steamCost(), 0);
        Check.refused("mass(0)", INDEX, () -> mill.mass(0));
        Check.refused("change(0)", INDEX, () -> mill.change(0));
        Check.refused("order(0, 100, 1)", INDEX, () -> mill.order(0, 100, 1));
        Check.refused("lacks(0)", INDEX, () -> mill.lacks(0));
        Check.refused("made(0)", INDEX, () -> mill.made(0));
        mill.addGrade(40);
        Check.same("addGrade(40) of a second mill", new PaperMachine().addGrade(40), 0);
    }

    private static void addGradeOutOfRange() {
        Check.sentence("addGrade", "IllegalArgumentException if the weight is out of range, or a grade has it");
        for (int weight : new int[] {39, 201, 0, -40, Integer.MAX_VALUE, Integer.MIN_VALUE}) {
            Twin.refused("addGrade(" + weight + ")", ARGUMENT, PaperMachine::new, m -> m.addGrade(weight));
        }
    }

    private static void addGradeTaken() {
        Check.sentence("addGrade", "or a grade has it");
        for (int weight : new int[] {200, 120, 40, 77, 160}) {
            Twin.refused("addGrade(" + weight + ") again", ARGUMENT,
                    () -> Mills.of(200, 120, 40, 77, 160), m -> m.addGrade(weight));
        }
        Twin.refused("addGrade(100) again while it is changing to it", ARGUMENT, () -> {
            PaperMachine mill = Mills.of(100);
            mill.change(0);
            return mill;
        }, m -> m.addGrade(100));
    }

    private static void addGradeFull() {
        Check.sentence("addGrade", "IllegalStateException if there are 6 grades");
        Check.same("a sixth grade", Mills.of(50, 60, 70, 80, 90).addGrade(200), 5);
        for (int weight : new int[] {41, 100, 199}) {
            Twin.refused("a seventh grade, of " + weight, STATE, Mills::withAllGrades, m -> m.addGrade(weight));
        }
    }

    private static void addGradeOrder() {
        Check.sentence("Exceptions", "If several exceptions apply, the one that is documented first is thrown.");
        for (int weight : new int[] {39, 201, 40, 200, Integer.MIN_VALUE}) {
            Twin.refused("a seventh grade, of " + weight, ARGUMENT, Mills::withAllGrades, m -> m.addGrade(weight));
        }
    }

    // ---- promise 3

    private static void setWidthBefore() {
        Check.sentence("setWidth", "Returns the width before.");
        PaperMachine mill = new PaperMachine();
        Check.same("setWidth(200)", mill.setWidth(200), 600);
        Check.same("setWidth(200) again", mill.setWidth(200), 200);
        Check.same("setWidth(800)", mill.setWidth(800), 200);
        Check.same("setWidth(799)", mill.setWidth(799), 800);
    }

    private static void setWidthOutOfRange() {
        Check.sentence("setWidth", "IllegalArgumentException if the width is out of range");
        for (int width : new int[] {199, 801, 0, -200, Integer.MAX_VALUE, Integer.MIN_VALUE}) {
            Twin.refused("setWidth(" + width + ")", ARGUMENT, () -> Mills.of(100), m -> m.setWidth(width));
        }
    }

    /** Orders of 300 and 250 of grades that the machine does not have, and one of 220 that is cut but for one roll. */
    private static PaperMachine withWideOrders() {
        PaperMachine mill = Mills.running(800, 100, 50);
        mill.order(0, 220, 4);
        mill.order(1, 300, 1);
        mill.order(1, 250, 50);
        mill.pass(1);
        return mill;
    }

    private static void setWidthBelowAnOrder() {
        Check.sentence("setWidth", "IllegalStateException if an open order is wider");
        Twin.refused("setWidth(299) beside 300", STATE, GradeEdgesTest::withWideOrders, m -> m.setWidth(299));
        Twin.refused("setWidth(200) beside 300", STATE, GradeEdgesTest::withWideOrders, m -> m.setWidth(200));
        PaperMachine mill = withWideOrders();
        Check.same("setWidth(300) beside 300", mill.setWidth(300), 800);
        mill.cancel(1);
        Check.refused("setWidth(249) beside 250", STATE, () -> mill.setWidth(249));
        Check.same("setWidth(250) beside 250", mill.setWidth(250), 300);
        mill.cancel(2);
        Check.refused("setWidth(219) beside 220 that lacks one roll", STATE, () -> mill.setWidth(219));
        Check.same("setWidth(220) beside 220 that lacks one roll", mill.setWidth(220), 250);
    }

    private static void setWidthBelowAClosedOrder() {
        Check.sentence("Orders", "it is open as long as some of its rolls are not cut");
        PaperMachine mill = withWideOrders();
        mill.cancel(1);
        mill.cancel(2);
        mill.pass(1);
        Check.same("setWidth(200) beside orders that are cut or cancelled", mill.setWidth(200), 800);
        PaperMachine last = Mills.running(800, 100);
        Mills.fillWithOrders(last, 200, 1);
        last.cancel(9);
        Check.same("setWidth(200) beside 10 orders of 200", last.setWidth(200), 800);
        PaperMachine widestIsLast = Mills.of(100);
        for (int i = 0; i < 10; i++) {
            widestIsLast.order(0, 392 + (i == 9 ? 8 : 0), 1);
        }
        Check.refused("setWidth(399), order 9 is 400", STATE, () -> widestIsLast.setWidth(399));
        Check.same("setWidth(400), order 9 is 400", widestIsLast.setWidth(400), 600);
    }

    private static void setWidthOrder() {
        Check.sentence("Exceptions", "If several exceptions apply, the one that is documented first is thrown.");
        for (int width : new int[] {199, -1, Integer.MIN_VALUE}) {
            Twin.refused("setWidth(" + width + ") beside 300", ARGUMENT,
                    GradeEdgesTest::withWideOrders, m -> m.setWidth(width));
        }
    }

    // ---- promise 4

    /** On the way up from 100 to 140, with grades on both sides of both. */
    private static PaperMachine inAChange() {
        PaperMachine mill = Mills.running(600, 100, 140, 60, 180);
        mill.order(1, 100, 2);
        mill.order(2, 100, 2);
        mill.change(1);
        return mill;
    }

    private static PaperMachine inTheLastHourOfAChange() {
        PaperMachine mill = inAChange();
        mill.pass(1);
        return mill;
    }

    private static void changeToNoGrade() {
        Check.sentence("change", "IndexOutOfBoundsException if there is no such grade");
        for (int grade : NO_GRADES) {
            Twin.refused("change(" + grade + ") with 6 grades", INDEX, Mills::withAllGrades, m -> m.change(grade));
            Twin.refused("change(" + grade + ") of a new mill", INDEX, PaperMachine::new, m -> m.change(grade));
        }
        Twin.refused("change(0) without grades", INDEX, PaperMachine::new, m -> m.change(0));
        Twin.refused("change(2) with 2 grades", INDEX, () -> Mills.of(40, 50), m -> m.change(2));
        Check.same("change(5) with 6 grades", Mills.withAllGrades().change(5), 1);
    }

    private static void changeToItsOwn() {
        Check.sentence("change", "IllegalArgumentException if the machine has this grade, or is changing to it");
        Twin.refused("a change to its own grade", ARGUMENT, () -> Mills.running(600, 100, 50, 150), m -> m.change(0));
        Twin.refused("a change to its own grade after a way down", ARGUMENT, () -> {
            PaperMachine mill = inAChange();
            mill.pass(2);
            Mills.goOver(mill, 0);
            return mill;
        }, m -> m.change(0));
    }

    private static void changeToThatOfTheChange() {
        Check.sentence("change", "or is changing to it");
        Twin.refused("change(1) in a change to 1", ARGUMENT, GradeEdgesTest::inAChange, m -> m.change(1));
        Twin.refused("change(1) in the last hour of a change to 1", ARGUMENT,
                GradeEdgesTest::inTheLastHourOfAChange, m -> m.change(1));
        Twin.refused("change(0) in the first change, to 0", ARGUMENT, () -> {
            PaperMachine mill = Mills.of(100);
            mill.change(0);
            return mill;
        }, m -> m.change(0));
    }

    private static void changeWhileChanging() {
        Check.sentence("change", "IllegalStateException if the machine is changing");
        Twin.refused("change(2) in a change to 1", STATE, GradeEdgesTest::inAChange, m -> m.change(2));
        Twin.refused("change(0) in a change from 0 to 1", STATE, GradeEdgesTest::inAChange, m -> m.change(0));
        Twin.refused("change(2) in the last hour of a change to 1", STATE,
                GradeEdgesTest::inTheLastHourOfAChange, m -> m.change(2));
        PaperMachine mill = inTheLastHourOfAChange();
        mill.pass(1);
        Check.same("change(2) when the change is over", mill.change(2), 3);
    }

    private static void changeOrder() {
        Check.sentence("Exceptions", "If several exceptions apply, the one that is documented first is thrown.");
        for (int grade : new int[] {-1, 4, Integer.MAX_VALUE}) {
            Twin.refused("change(" + grade + ") in a change", INDEX, GradeEdgesTest::inAChange, m -> m.change(grade));
        }
        Check.refused("change(1) in a change to 1", ARGUMENT, () -> inAChange().change(1));
    }

    // ---- promises 5 and 6

    private static void grade() {
        Check.sentence("grade", "NoSuchElementException if it has none");
        Twin.refused("grade of a new mill", NONE, PaperMachine::new, PaperMachine::grade);
        Twin.refused("grade with grades and orders and hours", NONE, () -> {
            PaperMachine mill = Mills.of(100);
            mill.order(0, 100, 1);
            mill.pass(48);
            return mill;
        }, PaperMachine::grade);
        Check.sentence("grade", "Returns the grade of the machine, or the one to which it is changing.");
        PaperMachine mill = Mills.withAllGrades();
        mill.change(5);
        Check.same("grade in the first change", mill.grade(), 5);
        mill.pass(1);
        Check.same("grade when it is over", mill.grade(), 5);
        mill.change(0);
        Check.same("grade as a change begins", mill.grade(), 0);
        mill.pass(4);
        Check.same("grade in its last hour", mill.grade(), 0);
        mill.pass(1);
        Check.same("grade when it is over", mill.grade(), 0);
    }

    private static void changing() {
        Check.sentence("changing", "Returns for how many hours the machine is changing still.");
        PaperMachine mill = Mills.of(40, 200);
        Check.same("changing without a grade", mill.changing(), 0);
        mill.pass(1);
        Check.same("changing without a grade, an hour on", mill.changing(), 0);
        Mills.goOver(mill, 0);
        mill.change(1);
        for (int left = 5; left >= 0; left--) {
            Check.same("changing with " + left + " to go", mill.changing(), left);
            mill.pass(1);
        }
        Check.same("changing an hour after it", mill.changing(), 0);
        Mills.goOver(mill, 0);
        mill.change(1);
        mill.pass(48);
        Check.same("changing when more hours have passed at once than it takes", mill.changing(), 0);
    }

    // ---- promises 7 and 8

    private static void nextIsAnother() {
        Check.sentence("next", "of the other grades that have open orders");
        PaperMachine mill = Mills.running(600, 100, 200);
        mill.order(0, 100, 50);
        Check.refused("next with orders of its own alone", NONE, mill::next);
        mill.order(1, 100, 1);
        Check.same("next with orders of another too", mill.next(), 1);
        mill.change(1);
        Check.same("next in a change to the other", mill.next(), 0);
    }

    private static void nextHasOpenOrders() {
        Check.sentence("Orders", "it is open as long as some of its rolls are not cut");
        PaperMachine mill = Mills.running(600, 100, 110, 120);
        mill.order(1, 300, 3);
        mill.order(2, 300, 1);
        Mills.goOver(mill, 1);
        mill.pass(1);
        Mills.goOver(mill, 0);
        Check.same("next, an order of 110 lacks one roll", mill.next(), 1);
        Mills.goOver(mill, 1);
        mill.pass(1);
        Mills.goOver(mill, 0);
        Check.same("next, the order of 110 is cut", mill.next(), 2);
        mill.order(1, 300, 1);
        Check.same("next, 110 has a new one", mill.next(), 1);
        mill.cancel(2);
        Check.same("next, it is cancelled", mill.next(), 2);
    }

    /** Grades in no order of weights, all but the first with an open order; the machine has 120. */
    private static PaperMachine ring() {
        PaperMachine mill = Mills.of(120, 200, 119, 40, 121, 118);
        for (int grade = 1; grade < 6; grade++) {
            mill.order(grade, 100, 1);
        }
        return mill;
    }

    private static void nextIsTheNearest() {
        Check.sentence("next", "the nearest one by weight in the direction of the machine");
        PaperMachine up = ring();
        Mills.goOver(up, 0);
        Check.same("next, up at 120", up.next(), 4);
        up.cancel(3);
        Check.same("next, up at 120, 121 does not wait", up.next(), 1);
        PaperMachine down = ring();
        Mills.goOver(down, 1);
        Mills.goOver(down, 0);
        Check.same("next, down at 120", down.next(), 2);
        down.cancel(1);
        Check.same("next, down at 120, 119 does not wait", down.next(), 5);
        down.cancel(4);
        Check.same("next, down at 120, 118 does not wait", down.next(), 3);
    }

    private static void nextInTheOtherDirection() {
        Check.sentence("next", "if there is none, the nearest one in the other direction");
        PaperMachine up = ring();
        Mills.goOver(up, 0);
        up.cancel(0);
        up.cancel(3);
        Check.same("next, up at 120, none above waits", up.next(), 2);
        up.cancel(1);
        Check.same("next, up at 120, 119 does not wait", up.next(), 5);
        PaperMachine down = ring();
        Mills.goOver(down, 1);
        Mills.goOver(down, 0);
        down.cancel(1);
        down.cancel(2);
        down.cancel(4);
        Check.same("next, down at 120, none below waits", down.next(), 4);
        down.cancel(3);
        Check.same("next, down at 120, 121 does not wait", down.next(), 1);
        PaperMachine lightest = ring();
        Mills.goOver(lightest, 0);
        Mills.goOver(lightest, 3);
        Check.same("next, down at the lightest of all", lightest.next(), 5);
        PaperMachine heaviest = ring();
        Mills.goOver(heaviest, 1);
        Check.same("next, up at the heaviest of all", heaviest.next(), 4);
    }

    private static void nextWithoutAGrade() {
        Check.sentence("next", "without a grade of the machine, the lightest one that has open orders");
        PaperMachine mill = ring();
        mill.order(0, 100, 1);
        int[] numbers = {3, 5, 2, 0, 4, 1};
        int[] orders = {2, 4, 1, 5, 3, 0};
        for (int i = 0; i < numbers.length; i++) {
            Check.same("next without a grade, " + i + " cancelled", mill.next(), numbers[i]);
            mill.cancel(orders[i]);
        }
        Check.refused("next without a grade, all cancelled", NONE, mill::next);
    }

    private static void nextIsNone() {
        Check.sentence("next", "NoSuchElementException if no other grade has open orders");
        Twin.refused("next of a new mill", NONE, PaperMachine::new, PaperMachine::next);
        Twin.refused("next without orders", NONE, Mills::withAllGrades, PaperMachine::next);
        Twin.refused("next without orders, with a grade", NONE,
                () -> Mills.running(600, 100, 150, 50), PaperMachine::next);
        Twin.refused("next with orders of its own alone", NONE, () -> {
            PaperMachine mill = Mills.running(600, 100, 150, 50);
            mill.order(0, 100, 1);
            return mill;
        }, PaperMachine::next);
        Twin.refused("next, the order of the other is cut", NONE, () -> {
            PaperMachine mill = Mills.running(600, 100, 150, 50);
            mill.order(0, 100, 1);
            mill.pass(1);
            Mills.goOver(mill, 1);
            return mill;
        }, PaperMachine::next);
        Twin.looks("next with an order of one other", 2, () -> {
            PaperMachine mill = Mills.running(600, 100, 150, 50);
            mill.order(2, 100, 1);
            return mill;
        }, PaperMachine::next);
    }

    private static void mass() {
        Check.sentence("mass", "IndexOutOfBoundsException if there is no such grade");
        for (int grade : NO_GRADES) {
            Twin.refused("mass(" + grade + ") with 6 grades", INDEX, Mills::withAllGrades, m -> m.mass(grade));
        }
        Twin.refused("mass(0) without grades", INDEX, PaperMachine::new, m -> m.mass(0));
        Twin.refused("mass(2) with 2 grades", INDEX, () -> Mills.of(40, 50), m -> m.mass(2));
        Twin.looks("mass(0) with 2 grades", 2400, () -> Mills.of(40, 50), m -> m.mass(0));
        Twin.looks("mass(1) with 2 grades", 3000, () -> Mills.of(40, 50), m -> m.mass(1));
    }
}
