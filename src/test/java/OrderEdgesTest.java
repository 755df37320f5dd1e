/**
 * Orders and cutting at their edges, promises 9 to 16: for each sentence of the document that names
 * an edge a test of its own, which begins with the sentence.
 */
public final class OrderEdgesTest {
    private static final String INDEX = "IndexOutOfBoundsException";
    private static final String ARGUMENT = "IllegalArgumentException";
    private static final String STATE = "IllegalStateException";
    private static final String UNSUPPORTED = "UnsupportedOperationException";
    private static final String FIRST_IS_THROWN =
            "If several exceptions apply, the one that is documented first is thrown.";
    private static final int[] NO_GRADES = {-1, 6, 7, Integer.MAX_VALUE, Integer.MIN_VALUE};
    private static final int[] NO_ORDERS = {-1, 10, 11, Integer.MAX_VALUE, Integer.MIN_VALUE};

    public static void main(String[] args) {
        termsOfOrders();
        termsOfCutting();
        order();
        cancel();
        cut();
        lacks();
        trim();
        trimByTable();
        inCut();
        leastHours();
        Check.end("OrderEdgesTest");
    }

    private static void termsOfOrders() {
        ordersFromZero();
        leastAndGreatestWidth();
        openUntilTheLastRoll();
    }

    private static void termsOfCutting() {
        openOrdersOfTheGradeAlone();
        sixRollsAtMost();
        sumNotAboveTheMachine();
        noMoreThanLacks();
        greatestSum();
        mostOfTheLowestNumber();
        mostOfTheNext();
        trimIsWhatIsLeft();
    }

    private static void order() {
        leastAndGreatestRolls();
        orderOfNoGrade();
        orderOutOfRange();
        orderWiderThanTheMachine();
        orderBeyondTen();
        orderIndexGoesFirst();
        orderArgumentGoesNext();
        orderUnsupportedGoesBeforeState();
    }

    private static void cancel() {
        cancelReturnsWhatItLacked();
        cancelOfNoOrder();
        cancelOfAClosedOrder();
    }

    private static void trim() {
        trimIfNoRollCanBeCut();
        trimOfNoGrade();
    }

    private static void trimByTable() {
        theSameTrim();
        trimByTableOfNoGrade();
    }

    private static void inCut() {
        inCutOfEachOrder();
        inCutOfNoOrder();
    }

    private static void leastHours() {
        leastHoursByTheWidths();
        leastHoursByTheNumber();
        leastHoursOfOpenOrders();
        leastHoursOfAFullBook();
        leastHoursOfNoGrade();
    }

    /** Checks the cut of grade 0: its trim by both ways, and the rolls of each order from 0. */
    private static void cutIs(PaperMachine mill, String name, int trim, int... rolls) {
        Check.same(name + ": trim", mill.trim(0), trim);
        Check.same(name + ": trimByTable", mill.trimByTable(0), trim);
        for (int i = 0; i < rolls.length; i++) {
            Check.same(name + ": inCut(" + i + ")", mill.inCut(i), rolls[i]);
        }
    }

    /** A running mill of this width, with an order of grade 0 for each pair of a width and a number of rolls. */
    private static PaperMachine withOrders(int width, int... widthsAndRolls) {
        PaperMachine mill = Mills.running(width, 100, 50);
        for (int i = 0; i + 1 < widthsAndRolls.length; i += 2) {
            mill.order(0, widthsAndRolls[i], widthsAndRolls[i + 1]);
        }
        return mill;
    }

    // ---- the terms of orders

    private static void ordersFromZero() {
        Check.sentence("Orders", "At most 10 orders are numbered from 0");
        PaperMachine mill = Mills.of(100, 50);
        for (int i = 0; i < 10; i++) {
            Check.same("order " + i, mill.order(i % 2, 100 + i, 1 + i), i);
        }
        for (int i = 0; i < 10; i++) {
            Check.same("lacks(" + i + ")", mill.lacks(i), 1 + i);
        }
    }

    private static void leastAndGreatestWidth() {
        Check.sentence("Orders", "a width from 20 to 400");
        for (int width : new int[] {20, 21, 399, 400}) {
            PaperMachine mill = Mills.of(100);
            Check.same("an order of " + width, mill.order(0, width, 1), 0);
            Check.same("its trim", mill.trim(0), 600 - width);
            Check.same("its trim by the table", mill.trimByTable(0), 600 - width);
        }
    }

    private static void openUntilTheLastRoll() {
        Check.sentence("Orders", "it is open as long as some of its rolls are not cut");
        PaperMachine mill = withOrders(400, 400, 2);
        mill.pass(1);
        Check.same("the trim with one roll to go", mill.trim(0), 0);
        mill.pass(1);
        Check.same("the trim with none to go", mill.trim(0), 400);
        Check.refused("cancel with none to go", STATE, () -> mill.cancel(0));
    }

    // ---- the terms of cutting

    private static void openOrdersOfTheGradeAlone() {
        Check.sentence("Cutting", "rolls of open orders of the grade are cut side by side");
        PaperMachine mill = withOrders(600, 250, 1);
        mill.order(1, 350, 1);
        mill.order(0, 350, 1);
        mill.cancel(2);
        cutIs(mill, "beside another grade and a cancelled order", 350, 1, 1, 0);
        Check.same("rolls of an hour", mill.pass(1), 1);
        Check.same("lacks of the other grade", mill.lacks(1), 1);
        Check.same("cut of the cancelled order", mill.cut(2), 0);
        cutIs(mill, "when it is cut", 600, 0, 1, 0);
    }

    private static void sixRollsAtMost() {
        Check.sentence("Cutting", "at most 6 rolls");
        cutIs(withOrders(200, 20, 5), "5 rolls of one order", 100, 5);
        cutIs(withOrders(200, 20, 6), "6 rolls of one order", 80, 6);
        cutIs(withOrders(200, 20, 7), "7 rolls of one order", 80, 6);
        PaperMachine ten = Mills.running(800, 100, 50);
        Mills.fillWithOrders(ten, 20, 1);
        cutIs(ten, "a roll of each of 10 orders", 680, 1, 1, 1, 1, 1, 1, 0, 0, 0, 0);
        Check.same("rolls of an hour", ten.pass(1), 6);
        Check.same("rolls of the next hour", ten.pass(1), 4);
        // Seven rolls would fill the machine; of six, those that leave out a roll of 100 leave the least.
        cutIs(withOrders(700, 100, 6, 99, 6), "7 rolls would fit", 100, 6, 0);
        cutIs(withOrders(700, 100, 1, 110, 4, 120, 2), "6 of 7 rolls", 20, 0, 4, 2);
    }

    private static void sumNotAboveTheMachine() {
        Check.sentence("Cutting", "the sum of whose widths is not greater than that of the machine");
        cutIs(withOrders(200, 100, 9), "as wide as the machine", 0, 2);
        cutIs(withOrders(201, 100, 9), "one less than the machine", 1, 2);
        cutIs(withOrders(200, 101, 9), "2 are wider than the machine by 2", 99, 1);
        cutIs(withOrders(201, 101, 9), "2 are wider than the machine by 1", 100, 1);
        cutIs(withOrders(200, 200, 9), "one as wide as the machine", 0, 1);
        cutIs(withOrders(800, 400, 9), "2 of the widest on the widest", 0, 2);
        cutIs(withOrders(799, 400, 9), "2 of the widest on one less", 399, 1);
        cutIs(withOrders(800, 400, 1, 399, 9, 20, 1), "3 orders on the widest", 1, 1, 1, 0);
    }

    private static void noMoreThanLacks() {
        Check.sentence("Cutting", "of no order more than it still lacks");
        cutIs(withOrders(600, 200, 1), "one lacks", 400, 1);
        cutIs(withOrders(600, 200, 2), "2 lack", 200, 2);
        cutIs(withOrders(600, 200, 3), "3 lack", 0, 3);
        PaperMachine mill = withOrders(600, 200, 4);
        mill.pass(1);
        cutIs(mill, "one of 4 is left", 400, 1);
        Check.same("rolls of the next hour", mill.pass(1), 1);
        cutIs(mill, "none of 4 is left", 600, 0);
    }

    private static void greatestSum() {
        Check.sentence("Cutting", "The cut is the one with the greatest sum of widths");
        cutIs(withOrders(200, 99, 2, 199, 1), "199 before 198", 1, 0, 1);
        cutIs(withOrders(200, 199, 1, 100, 2), "200 before 199", 0, 0, 2);
        // 600 is 298 and twice 101 and 100; with the one roll of 300, no more than 598 comes together.
        cutIs(withOrders(600, 300, 1, 298, 1, 101, 5, 100, 2), "the first is not in it", 0, 0, 1, 2, 1);
    }

    private static void mostOfTheLowestNumber() {
        Check.sentence("Cutting", "of several, the one that has most rolls of the order with the lowest number");
        cutIs(withOrders(600, 100, 2, 200, 3, 300, 2), "100 twice is the most", 0, 2, 2, 0);
        cutIs(withOrders(600, 300, 9, 300, 9), "two of the same width", 0, 2, 0);
        cutIs(withOrders(600, 300, 1, 300, 9), "two of the same width, the first lacks one", 0, 1, 1);
        cutIs(withOrders(400, 20, 1, 400, 1, 380, 1), "one of the least before one of the greatest", 0, 1, 0, 1);
        cutIs(withOrders(600, 290, 1, 400, 1, 400, 1, 400, 1, 400, 1, 400, 1, 400, 1, 400, 1, 290, 1, 290, 1),
                "the last two of 10 are of one width", 20, 1, 0, 0, 0, 0, 0, 0, 0, 1, 0);
    }

    private static void mostOfTheNext() {
        Check.sentence("Cutting", "of several, most of the next one, and so on.");
        cutIs(withOrders(600, 200, 1, 100, 9, 200, 9, 400, 9), "most of the second", 0, 1, 4, 0, 0);
        cutIs(withOrders(600, 200, 1, 400, 9, 100, 9, 200, 9), "most of another second", 0, 1, 1, 0, 0);
        cutIs(withOrders(600, 350, 1, 50, 1, 100, 1, 200, 1, 100, 1), "most of the third", 0, 1, 1, 1, 0, 1);
        PaperMachine last = Mills.running(600, 100, 50);
        Mills.fillWithOrders(last, 100, 1);
        cutIs(last, "and so on to the sixth of 10", 0, 1, 1, 1, 1, 1, 1, 0, 0, 0, 0);
    }

    private static void trimIsWhatIsLeft() {
        Check.sentence("Cutting", "The trim is the width of the machine minus this sum.");
        cutIs(withOrders(800, 20, 1), "the least sum on the widest", 780, 1);
        cutIs(withOrders(200, 199, 1), "all but one", 1, 1);
        cutIs(withOrders(200, 200, 1), "all", 0, 1);
    }

    // ---- promise 9

    private static void leastAndGreatestRolls() {
        Check.sentence("order", "the number of rolls, 1 to 50");
        for (int rolls : new int[] {1, 2, 49, 50}) {
            PaperMachine mill = Mills.of(100);
            Check.same("an order of " + rolls + " rolls", mill.order(0, 100, rolls), 0);
            Check.same("what it lacks", mill.lacks(0), rolls);
        }
    }

    private static void orderOfNoGrade() {
        Check.sentence("order", "IndexOutOfBoundsException if there is no such grade");
        for (int grade : NO_GRADES) {
            Twin.refused("order(" + grade + ", 100, 1) with 6 grades", INDEX,
                    Mills::withAllGrades, m -> m.order(grade, 100, 1));
        }
        Twin.refused("order(0, 100, 1) without grades", INDEX, PaperMachine::new, m -> m.order(0, 100, 1));
        Twin.refused("order(2, 100, 1) with 2 grades", INDEX, () -> Mills.of(100, 50), m -> m.order(2, 100, 1));
        Check.same("order(5, 100, 1) with 6 grades", Mills.withAllGrades().order(5, 100, 1), 0);
    }

    private static void orderOutOfRange() {
        Check.sentence("order", "IllegalArgumentException if a number is out of range");
        for (int width : new int[] {19, 401, 0, -20, Integer.MAX_VALUE, Integer.MIN_VALUE}) {
            Twin.refused("order(0, " + width + ", 1)", ARGUMENT, () -> Mills.of(100), m -> m.order(0, width, 1));
        }
        for (int rolls : new int[] {0, 51, -1, Integer.MAX_VALUE, Integer.MIN_VALUE}) {
            Twin.refused("order(0, 100, " + rolls + ")", ARGUMENT, () -> Mills.of(100), m -> m.order(0, 100, rolls));
        }
        Twin.refused("order(0, 19, 51)", ARGUMENT, () -> Mills.of(100), m -> m.order(0, 19, 51));
    }

    private static PaperMachine narrow() {
        PaperMachine mill = Mills.of(100, 50);
        mill.setWidth(200);
        return mill;
    }

    private static void orderWiderThanTheMachine() {
        Check.sentence("order", "UnsupportedOperationException if it is wider than the machine");
        Check.same("an order of 200 on 200", narrow().order(0, 200, 1), 0);
        Twin.refused("an order of 201 on 200", UNSUPPORTED, OrderEdgesTest::narrow, m -> m.order(0, 201, 1));
        Twin.refused("an order of 400 on 200", UNSUPPORTED, OrderEdgesTest::narrow, m -> m.order(1, 400, 50));
        PaperMachine mill = narrow();
        mill.setWidth(399);
        Check.refused("an order of 400 on 399", UNSUPPORTED, () -> mill.order(0, 400, 1));
        mill.setWidth(400);
        Check.same("an order of 400 on 400", mill.order(0, 400, 1), 0);
    }

    /** A mill of the width 200 with 10 orders, none of which is open. */
    private static PaperMachine full() {
        PaperMachine mill = narrow();
        Mills.fillWithOrders(mill, 100, 2);
        Mills.goOver(mill, 0);
        mill.pass(9);
        mill.cancel(9);
        return mill;
    }

    private static void orderBeyondTen() {
        Check.sentence("order", "IllegalStateException if there are 10 orders");
        Twin.refused("an eleventh order", STATE, OrderEdgesTest::full, m -> m.order(0, 100, 1));
        Twin.refused("an eleventh order, of the width of the machine", STATE,
                OrderEdgesTest::full, m -> m.order(1, 200, 50));
        Twin.refused("an eleventh order beside 10 open ones", STATE, () -> {
            PaperMachine mill = Mills.of(100);
            Mills.fillWithOrders(mill, 400, 50);
            return mill;
        }, m -> m.order(0, 20, 1));
    }

    private static void orderIndexGoesFirst() {
        Check.sentence("Exceptions", FIRST_IS_THROWN);
        for (int grade : new int[] {-1, 2, Integer.MAX_VALUE}) {
            String name = "order of grade " + grade;
            Twin.refused(name + ", out of range", INDEX, OrderEdgesTest::narrow, m -> m.order(grade, 19, 0));
            Twin.refused(name + ", too wide", INDEX, OrderEdgesTest::narrow, m -> m.order(grade, 201, 1));
            Twin.refused(name + ", an eleventh", INDEX, OrderEdgesTest::full, m -> m.order(grade, 100, 1));
            Twin.refused(name + ", all at once", INDEX, OrderEdgesTest::full, m -> m.order(grade, 201, 51));
        }
    }

    private static void orderArgumentGoesNext() {
        Check.sentence("Exceptions", FIRST_IS_THROWN);
        Twin.refused("of 401 on 200", ARGUMENT, OrderEdgesTest::narrow, m -> m.order(0, 401, 1));
        Twin.refused("of 201 on 200, no roll", ARGUMENT, OrderEdgesTest::narrow, m -> m.order(0, 201, 0));
        Twin.refused("of 201 on 200, 51 rolls", ARGUMENT, OrderEdgesTest::narrow, m -> m.order(0, 201, 51));
        Twin.refused("an eleventh, of 19", ARGUMENT, OrderEdgesTest::full, m -> m.order(0, 19, 1));
        Twin.refused("an eleventh, of 401", ARGUMENT, OrderEdgesTest::full, m -> m.order(0, 401, 1));
        Twin.refused("an eleventh, no roll", ARGUMENT, OrderEdgesTest::full, m -> m.order(0, 100, 0));
        Twin.refused("an eleventh, 51 rolls", ARGUMENT, OrderEdgesTest::full, m -> m.order(0, 100, 51));
        Twin.refused("an eleventh of 201, 51 rolls", ARGUMENT, OrderEdgesTest::full, m -> m.order(0, 201, 51));
    }

    private static void orderUnsupportedGoesBeforeState() {
        Check.sentence("Exceptions", FIRST_IS_THROWN);
        Twin.refused("an eleventh, of 201 on 200", UNSUPPORTED, OrderEdgesTest::full, m -> m.order(0, 201, 1));
        Twin.refused("an eleventh, of 400 on 200", UNSUPPORTED, OrderEdgesTest::full, m -> m.order(1, 400, 50));
    }

    // ---- promises 10 to 12

    private static void cancelReturnsWhatItLacked() {
        Check.sentence("cancel", "Returns the number of rolls that it lacked.");
        Check.same("cancel of 50", withOrders(600, 100, 50).cancel(0), 50);
        Check.same("cancel of 1", withOrders(600, 100, 1).cancel(0), 1);
        PaperMachine mill = withOrders(600, 100, 7);
        mill.pass(1);
        Check.same("cancel of the last roll of 7", mill.cancel(0), 1);
        Check.same("cut of it", mill.cut(0), 6);
        Check.same("lacks of it", mill.lacks(0), 0);
    }

    private static PaperMachine withTenOrders() {
        PaperMachine mill = Mills.of(100, 50);
        Mills.fillWithOrders(mill, 150, 3);
        return mill;
    }

    private static void cancelOfNoOrder() {
        Check.sentence("cancel", "IndexOutOfBoundsException if there is no such order");
        for (int order : NO_ORDERS) {
            Twin.refused("cancel(" + order + ") with 10", INDEX, OrderEdgesTest::withTenOrders, m -> m.cancel(order));
        }
        Twin.refused("cancel(0) without orders", INDEX, () -> Mills.of(100), m -> m.cancel(0));
        Twin.refused("cancel(1) with one order", INDEX, () -> withOrders(600, 100, 1), m -> m.cancel(1));
        Check.same("cancel(9) with 10", withTenOrders().cancel(9), 3);
    }

    private static void cancelOfAClosedOrder() {
        Check.sentence("cancel", "IllegalStateException if it is not open");
        Twin.refused("cancel of a cancelled order", STATE, () -> {
            PaperMachine mill = withOrders(600, 100, 5);
            mill.cancel(0);
            return mill;
        }, m -> m.cancel(0));
        Twin.refused("cancel of an order that is cut", STATE, () -> {
            PaperMachine mill = withOrders(600, 100, 6);
            mill.pass(1);
            return mill;
        }, m -> m.cancel(0));
        Twin.refused("cancel of the rest of an order, again", STATE, () -> {
            PaperMachine mill = withOrders(600, 100, 7);
            mill.pass(1);
            mill.cancel(0);
            return mill;
        }, m -> m.cancel(0));
    }

    private static void cut() {
        Check.sentence("cut", "IndexOutOfBoundsException if there is no such order");
        for (int order : NO_ORDERS) {
            Twin.refused("cut(" + order + ") with 10", INDEX, OrderEdgesTest::withTenOrders, m -> m.cut(order));
        }
        Twin.refused("cut(0) without orders", INDEX, () -> Mills.of(100), m -> m.cut(0));
        Twin.refused("cut(1) with one order", INDEX, () -> withOrders(600, 100, 1), m -> m.cut(1));
        Twin.looks("cut(9) with 10", 0, OrderEdgesTest::withTenOrders, m -> m.cut(9));
        Check.sentence("cut", "Returns how many rolls of an order are cut.");
        PaperMachine mill = withOrders(600, 100, 50);
        for (int hour = 0; hour <= 8; hour++) {
            Check.same("cut after " + hour + " hours", mill.cut(0), 6 * hour);
            mill.pass(1);
        }
        Check.same("cut of all 50", mill.cut(0), 50);
    }

    private static void lacks() {
        Check.sentence("lacks", "IndexOutOfBoundsException if there is no such order");
        for (int order : NO_ORDERS) {
            Twin.refused("lacks(" + order + ") with 10", INDEX, OrderEdgesTest::withTenOrders, m -> m.lacks(order));
        }
        Twin.refused("lacks(0) without orders", INDEX, () -> Mills.of(100), m -> m.lacks(0));
        Twin.refused("lacks(1) with one order", INDEX, () -> withOrders(600, 100, 1), m -> m.lacks(1));
        Twin.looks("lacks(9) with 10", 3, OrderEdgesTest::withTenOrders, m -> m.lacks(9));
        Check.sentence("lacks", "Returns the number of rolls, 0 if it is not open.");
        PaperMachine mill = withOrders(600, 300, 3, 300, 50);
        mill.pass(1);
        Check.same("lacks with one roll to go", mill.lacks(0), 1);
        mill.pass(1);
        Check.same("lacks with none to go", mill.lacks(0), 0);
        mill.cancel(1);
        Check.same("lacks when it is cancelled", mill.lacks(1), 0);
    }

    // ---- promises 13 to 15

    private static void trimIfNoRollCanBeCut() {
        Check.sentence("trim", "the width of the machine if no roll can be cut");
        for (int width : new int[] {200, 600, 800}) {
            cutIs(withOrders(width), "no order on " + width, width);
            PaperMachine mill = withOrders(width, 200, 1, 150, 4);
            mill.order(1, 200, 1);
            mill.cancel(1);
            mill.pass(1);
            cutIs(mill, "cut, cancelled and of another grade on " + width, width, 0, 0, 1);
        }
    }

    private static void trimOfNoGrade() {
        Check.sentence("trim", "IndexOutOfBoundsException if there is no such grade");
        for (int grade : NO_GRADES) {
            Twin.refused("trim(" + grade + ") with 6 grades", INDEX, Mills::withAllGrades, m -> m.trim(grade));
        }
        Twin.refused("trim(0) without grades", INDEX, PaperMachine::new, m -> m.trim(0));
        Twin.refused("trim(1) with one grade", INDEX, () -> Mills.of(100), m -> m.trim(1));
        Twin.looks("trim(5) with 6 grades", 600, Mills::withAllGrades, m -> m.trim(5));
        Twin.looks("trim(0) beside orders", 0, OrderEdgesTest::withTenOrders, m -> m.trim(0));
    }

    private static void theSameTrim() {
        Check.sentence("trimByTable", "Returns the same trim, found by a table of all sums.");
        int[][] widths = {{20, 33, 47}, {399, 400, 20}, {101, 202, 303}, {133, 134, 266}, {200, 199, 67}};
        for (int[] three : widths) {
            for (int rolls : new int[] {1, 2, 6, 50}) {
                PaperMachine mill = withOrders(800, three[0], rolls, three[1], rolls, three[2], rolls);
                for (int width = 400; width <= 800; width += 25) {
                    mill.setWidth(width);
                    int sum = 0;
                    for (int order = 0; order < 3; order++) {
                        sum += mill.inCut(order) * three[order];
                    }
                    Check.same("the trim by its cut", mill.trim(0), width - sum);
                    Check.same("the trim by the table", mill.trimByTable(0), width - sum);
                }
            }
        }
    }

    private static void trimByTableOfNoGrade() {
        Check.sentence("trimByTable", "IndexOutOfBoundsException if there is no such grade");
        for (int grade : NO_GRADES) {
            Twin.refused("trimByTable(" + grade + ")", INDEX, Mills::withAllGrades, m -> m.trimByTable(grade));
        }
        Twin.refused("trimByTable(0) without grades", INDEX, PaperMachine::new, m -> m.trimByTable(0));
        Twin.refused("trimByTable(1) with one grade", INDEX, () -> Mills.of(100), m -> m.trimByTable(1));
        Twin.looks("trimByTable(5) with 6 grades", 600, Mills::withAllGrades, m -> m.trimByTable(5));
        Twin.looks("trimByTable(0) beside orders", 0, OrderEdgesTest::withTenOrders, m -> m.trimByTable(0));
    }

    private static void inCutOfEachOrder() {
        Check.sentence("inCut",
                "Returns how many rolls of an order are in the cut that would be made now of its grade.");
        PaperMachine mill = withOrders(600, 150, 2);
        mill.order(1, 100, 50);
        mill.order(1, 300, 1);
        mill.order(0, 300, 1);
        int[] due = {2, 6, 0, 1};
        for (int order = 0; order < due.length; order++) {
            Check.same("inCut(" + order + ")", mill.inCut(order), due[order]);
        }
        mill.pass(1);
        Check.same("inCut of an order that is cut", mill.inCut(0), 0);
        mill.cancel(1);
        Check.same("inCut of a cancelled order", mill.inCut(1), 0);
        Check.same("inCut of the other one of its grade", mill.inCut(2), 1);
    }

    private static void inCutOfNoOrder() {
        Check.sentence("inCut", "IndexOutOfBoundsException if there is no such order");
        for (int order : NO_ORDERS) {
            Twin.refused("inCut(" + order + ") with 10", INDEX, OrderEdgesTest::withTenOrders, m -> m.inCut(order));
        }
        Twin.refused("inCut(0) without orders", INDEX, () -> Mills.of(100), m -> m.inCut(0));
        Twin.refused("inCut(1) with one order", INDEX, () -> withOrders(600, 100, 1), m -> m.inCut(1));
        Twin.looks("inCut(0) with 10", 3, OrderEdgesTest::withTenOrders, m -> m.inCut(0));
        Twin.looks("inCut(9) with 10", 0, OrderEdgesTest::withTenOrders, m -> m.inCut(9));
    }

    // ---- promise 16

    private static void leastHoursByTheWidths() {
        Check.sentence("leastHours", "of the sum of the widths of all rolls that lack by the width of the machine");
        Check.same("599 on 600", withOrders(600, 300, 1, 299, 1).leastHours(0), 1);
        Check.same("600 on 600", withOrders(600, 300, 2).leastHours(0), 1);
        Check.same("601 on 600", withOrders(600, 300, 1, 301, 1).leastHours(0), 2);
        Check.same("1200 on 600", withOrders(600, 400, 3).leastHours(0), 2);
        Check.same("1200 on 599", withOrders(599, 400, 3).leastHours(0), 3);
        Check.same("20 on 800", withOrders(800, 20, 1).leastHours(0), 1);
    }

    private static void leastHoursByTheNumber() {
        Check.sentence("leastHours", "and of their number by 6");
        int[] rolls = {1, 5, 6, 7, 12, 13, 48, 49, 50};
        int[] hours = {1, 1, 1, 2, 2, 3, 8, 9, 9};
        for (int i = 0; i < rolls.length; i++) {
            Check.same(rolls[i] + " rolls of 20", withOrders(600, 20, rolls[i]).leastHours(0), hours[i]);
        }
        Check.sentence("leastHours", "Returns the greater one of two quotients, both rounded up");
        Check.same("7 rolls of 100 on 600", withOrders(600, 100, 7).leastHours(0), 2);
        Check.same("7 rolls of 172 on 600", withOrders(600, 172, 7).leastHours(0), 3);
        Check.same("13 rolls of 92 on 600", withOrders(600, 92, 13).leastHours(0), 3);
    }

    private static void leastHoursOfOpenOrders() {
        Check.sentence("leastHours", "in which all open orders of a grade could be cut");
        PaperMachine mill = withOrders(600, 300, 5);
        mill.order(1, 400, 50);
        Check.same("leastHours of grade 0", mill.leastHours(0), 3);
        Check.same("leastHours of grade 1", mill.leastHours(1), 34);
        mill.pass(2);
        Check.same("leastHours when one roll is left", mill.leastHours(0), 1);
        mill.pass(1);
        Check.same("leastHours when none is left", mill.leastHours(0), 0);
        mill.cancel(1);
        Check.same("leastHours when all are cancelled", mill.leastHours(1), 0);
        Check.same("leastHours without orders", withOrders(600).leastHours(0), 0);
    }

    private static void leastHoursOfAFullBook() {
        Check.sentence("leastHours", "by the sum of their widths and by their number");
        PaperMachine wide = Mills.of(100);
        Mills.fillWithOrders(wide, 400, 50);
        Check.same("500 rolls of 400 on 600", wide.leastHours(0), 334);
        wide.setWidth(800);
        Check.same("500 rolls of 400 on 800", wide.leastHours(0), 250);
        wide.setWidth(400);
        Check.same("500 rolls of 400 on 400", wide.leastHours(0), 500);
        PaperMachine thin = Mills.of(100);
        Mills.fillWithOrders(thin, 20, 50);
        Check.same("500 rolls of 20 on 600", thin.leastHours(0), 84);
    }

    private static void leastHoursOfNoGrade() {
        Check.sentence("leastHours", "IndexOutOfBoundsException if there is no such grade");
        for (int grade : NO_GRADES) {
            Twin.refused("leastHours(" + grade + ")", INDEX, Mills::withAllGrades, m -> m.leastHours(grade));
        }
        Twin.refused("leastHours(0) without grades", INDEX, PaperMachine::new, m -> m.leastHours(0));
        Twin.refused("leastHours(1) with one grade", INDEX, () -> Mills.of(100), m -> m.leastHours(1));
        Twin.looks("leastHours(5) with 6 grades", 0, Mills::withAllGrades, m -> m.leastHours(5));
    }
}
