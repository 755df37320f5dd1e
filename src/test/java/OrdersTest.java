/** Promises 9 to 16 in ordinary use: orders and cutting. */
public final class OrdersTest {
    private static final String INDEX = "IndexOutOfBoundsException";
    private static final String ARGUMENT = "IllegalArgumentException";
    private static final String STATE = "IllegalStateException";
    private static final String UNSUPPORTED = "UnsupportedOperationException";

    /** A mill with the grades 0 of 100 and 1 of 50, that runs grade 0 and has passed one hour. */
    private static PaperMachine running() {
        return Mills.running(600, 100, 50);
    }

    /** Checks the cut of grade 0: its trim by both ways, and the rolls of each order from 0. */
    private static void cutIs(PaperMachine mill, String name, int trim, int... rolls) {
        // Grade 1 is looked at between, so that neither way lives on what the other one left.
        mill.trimByTable(1);
        Check.same(name + ": trim", mill.trim(0), trim);
        mill.trim(1);
        Check.same(name + ": trimByTable", mill.trimByTable(0), trim);
        for (int i = 0; i < rolls.length; i++) {
            Check.same(name + ": inCut(" + i + ")", mill.inCut(i), rolls[i]);
        }
    }

    public static void main(String[] args) {
        order();
        orderWiderThanTheMachine();
        orderFull();
        cancel();
        cutAndLacks();
        cutOfOneOrder();
        cutWithTies();
        cutWithManyRolls();
        cutByWhatLacks();
        cutOfEachGrade();
        cutAfterTheWidth();
        leastHours();
        Check.end("OrdersTest");
    }

    private static void order() {
        PaperMachine mill = running();
        Check.refused("order(-1, 100, 1)", INDEX, () -> mill.order(-1, 100, 1));
        Check.refused("order(2, 100, 1)", INDEX, () -> mill.order(2, 100, 1));
        Check.refused("order(2, 19, 0)", INDEX, () -> mill.order(2, 19, 0));
        Check.refused("order(0, 19, 1)", ARGUMENT, () -> mill.order(0, 19, 1));
        Check.refused("order(0, 401, 1)", ARGUMENT, () -> mill.order(0, 401, 1));
        Check.refused("order(0, 601, 1)", ARGUMENT, () -> mill.order(0, 601, 1));
        Check.refused("order(0, 100, 0)", ARGUMENT, () -> mill.order(0, 100, 0));
        Check.refused("order(0, 100, 51)", ARGUMENT, () -> mill.order(0, 100, 51));
        Check.refused("order(0, 100, -1)", ARGUMENT, () -> mill.order(0, 100, -1));
        Check.refused("order(0, least int, 1)", ARGUMENT,
                () -> mill.order(0, Integer.MIN_VALUE, 1));
        Check.same("order(0, 20, 1)", mill.order(0, 20, 1), 0);
        Check.same("order(1, 400, 50)", mill.order(1, 400, 50), 1);
        Check.same("lacks(0)", mill.lacks(0), 1);
        Check.same("lacks(1)", mill.lacks(1), 50);
        Check.same("cut(0)", mill.cut(0), 0);
        Check.same("inCut(1)", mill.inCut(1), 1);
    }

    private static void orderWiderThanTheMachine() {
        PaperMachine mill = running();
        mill.setWidth(250);
        Check.refused("an order of 251 on 250", UNSUPPORTED, () -> mill.order(0, 251, 1));
        Check.refused("an order of 401 on 250", ARGUMENT, () -> mill.order(0, 401, 1));
        Check.refused("an order of 251 and no roll", ARGUMENT, () -> mill.order(0, 251, 0));
        Check.refused("an order of no grade, of 251", INDEX, () -> mill.order(5, 251, 1));
        Check.same("an order of 250 on 250", mill.order(0, 250, 1), 0);
    }

    private static void orderFull() {
        PaperMachine mill = running();
        mill.setWidth(250);
        for (int i = 0; i < 10; i++) {
            Check.same("order " + i, mill.order(i % 2, 100, 2), i);
        }
        mill.cancel(4);
        Check.refused("an eleventh order", STATE, () -> mill.order(0, 100, 1));
        Check.refused("an eleventh, too wide", UNSUPPORTED, () -> mill.order(0, 251, 1));
        Check.refused("an eleventh, out of range", ARGUMENT, () -> mill.order(0, 100, 51));
        Check.refused("an eleventh of no grade", INDEX, () -> mill.order(2, 100, 1));
        Check.same("lacks(9)", mill.lacks(9), 2);
        Check.same("setWidth beside 10 orders", mill.setWidth(200), 250);
        Check.same("leastHours of 10 orders", mill.leastHours(1), 5);
        Check.same("leastHours of 10 orders, one cancelled", mill.leastHours(0), 4);
        Check.same("rolls of 10 orders", mill.pass(4), 8);
        Check.same("cut(8)", mill.cut(8), 2);
    }

    private static void cancel() {
        PaperMachine mill = running();
        mill.order(0, 300, 5);
        mill.order(1, 200, 7);
        Check.refused("cancel(-1)", INDEX, () -> mill.cancel(-1));
        Check.refused("cancel(2)", INDEX, () -> mill.cancel(2));
        mill.pass(1);
        Check.same("cancel of an order of which 2 are cut", mill.cancel(0), 3);
        Check.same("cut of the cancelled order", mill.cut(0), 2);
        Check.same("lacks of the cancelled order", mill.lacks(0), 0);
        Check.same("inCut of the cancelled order", mill.inCut(0), 0);
        Check.refused("cancel again", STATE, () -> mill.cancel(0));
        Check.same("an hour after it", mill.pass(1), 0);
        Check.same("cancel of one that nothing is cut of", mill.cancel(1), 7);
        mill.order(0, 300, 2);
        mill.pass(1);
        Check.refused("cancel of one that is cut", STATE, () -> mill.cancel(2));
    }

    private static void cutAndLacks() {
        PaperMachine mill = running();
        mill.order(0, 300, 5);
        mill.order(1, 300, 5);
        Check.same("rolls of 2 hours", mill.pass(2), 4);
        Check.same("cut(0)", mill.cut(0), 4);
        Check.same("lacks(0)", mill.lacks(0), 1);
        Check.same("cut(1), of another grade", mill.cut(1), 0);
        Check.same("lacks(1), of another grade", mill.lacks(1), 5);
        Check.same("rolls of 2 more hours", mill.pass(2), 1);
        Check.same("cut(0) at the end", mill.cut(0), 5);
        Check.same("lacks(0) at the end", mill.lacks(0), 0);
    }

    private static void cutOfOneOrder() {
        PaperMachine none = running();
        cutIs(none, "no order", 600);
        PaperMachine full = running();
        full.order(0, 100, 50);
        cutIs(full, "6 rolls that fill it", 0, 6);
        PaperMachine narrow = running();
        narrow.order(0, 99, 50);
        cutIs(narrow, "6 rolls at most", 6, 6);
        PaperMachine wide = running();
        wide.order(0, 301, 50);
        cutIs(wide, "2 rolls are too wide", 299, 1);
        PaperMachine least = running();
        least.order(0, 20, 50);
        cutIs(least, "6 of the least width", 480, 6);
    }

    private static void cutWithTies() {
        PaperMachine equal = running();
        equal.order(0, 200, 9);
        equal.order(0, 200, 9);
        cutIs(equal, "two of one width", 0, 3, 0);
        PaperMachine halves = running();
        halves.order(0, 300, 9);
        halves.order(0, 200, 9);
        halves.order(0, 100, 9);
        cutIs(halves, "most of the lowest number", 0, 2, 0, 0);
        PaperMachine last = running();
        last.order(0, 250, 1);
        last.order(0, 150, 2);
        last.order(0, 200, 9);
        last.order(0, 350, 9);
        cutIs(last, "the first, then the next", 0, 1, 1, 1, 0);
        PaperMachine third = running();
        third.order(0, 270, 1);
        third.order(0, 210, 9);
        third.order(0, 330, 1);
        third.order(0, 195, 2);
        cutIs(third, "the sum goes before the numbers", 0, 1, 0, 1, 0);
        PaperMachine ladder = running();
        ladder.order(0, 100, 1);
        ladder.order(0, 110, 9);
        ladder.order(0, 220, 9);
        ladder.order(0, 140, 2);
        ladder.order(0, 280, 1);
        cutIs(ladder, "of several, most of the next", 0, 1, 2, 0, 2, 0);
    }

    private static void cutWithManyRolls() {
        PaperMachine mill = running();
        mill.setWidth(800);
        for (int i = 0; i < 10; i++) {
            mill.order(0, 20 + i, 50);
        }
        cutIs(mill, "6 of the widest of 10", 626, 0, 0, 0, 0, 0, 0, 0, 0, 0, 6);
        PaperMachine mixed = running();
        mixed.setWidth(777);
        for (int i = 0; i < 10; i++) {
            mixed.order(0, 110 + 4 * i, 50);
        }
        // 776 takes 6 rolls whose numbers add up to 29: two of 0 leave 29 to four rolls, 2 and three times 9.
        cutIs(mixed, "even widths, an odd machine", 1, 2, 0, 1, 0, 0, 0, 0, 0, 0, 3);
    }

    private static void cutByWhatLacks() {
        PaperMachine mill = running();
        mill.order(0, 150, 3);
        mill.order(0, 140, 50);
        cutIs(mill, "3 that lack", 10, 3, 1);
        mill.pass(1);
        cutIs(mill, "none of the first lacks", 40, 0, 4);
        mill.cancel(1);
        cutIs(mill, "none lacks", 600, 0, 0);
    }

    private static void cutOfEachGrade() {
        PaperMachine mill = running();
        mill.order(1, 350, 1);
        mill.order(0, 250, 1);
        mill.order(1, 200, 1);
        cutIs(mill, "grade 0 beside grade 1", 350, 1, 1, 1);
        Check.same("trim(1)", mill.trim(1), 50);
        Check.same("trimByTable(1)", mill.trimByTable(1), 50);
        mill.change(1);
        cutIs(mill, "grade 0 while it is changing", 350, 1, 1, 1);
    }

    private static void cutAfterTheWidth() {
        PaperMachine mill = running();
        mill.order(0, 190, 9);
        mill.order(0, 200, 1);
        cutIs(mill, "on 600", 20, 2, 1);
        mill.setWidth(200);
        cutIs(mill, "on 200", 0, 0, 1);
        mill.setWidth(800);
        cutIs(mill, "on 800", 30, 3, 1);
    }

    private static void leastHours() {
        PaperMachine mill = running();
        Check.same("leastHours without orders", mill.leastHours(0), 0);
        mill.order(0, 300, 1);
        Check.same("leastHours of 300", mill.leastHours(0), 1);
        mill.order(0, 300, 1);
        Check.same("leastHours of 600", mill.leastHours(0), 1);
        mill.order(0, 20, 1);
        Check.same("leastHours of 620", mill.leastHours(0), 2);
        Check.same("leastHours of the other grade", mill.leastHours(1), 0);
        mill.order(1, 20, 6);
        Check.same("leastHours of 6 rolls", mill.leastHours(1), 1);
        mill.order(1, 20, 1);
        Check.same("leastHours of 7 rolls", mill.leastHours(1), 2);
        mill.order(1, 20, 50);
        Check.same("leastHours of 57 rolls", mill.leastHours(1), 10);
        mill.setWidth(301);
        Check.same("leastHours of 620 on 301", mill.leastHours(0), 3);
        mill.cancel(0);
        Check.same("leastHours when 300 of it is cancelled", mill.leastHours(0), 2);
        mill.setWidth(320);
        Check.same("leastHours of 320 on 320", mill.leastHours(0), 1);
        mill.pass(1);
        Check.same("leastHours when all is cut", mill.leastHours(0), 0);
    }
}
