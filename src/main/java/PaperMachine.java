import java.util.Arrays;
import java.util.NoSuchElementException;

/** The office of a paper mill with one machine; README.md tells how to use it. */
public final class PaperMachine {
    private static final int MOST_GRADES = 6;
    private static final int LEAST_WEIGHT = 40;
    private static final int MOST_WEIGHT = 200;
    private static final int NO_GRADE = -1;

    private static final int LEAST_WIDTH = 200;
    private static final int MOST_WIDTH = 800;
    private static final int FIRST_WIDTH = 600;
    private static final int WIDTH_OF_MASS = 10;
    private static final int WEIGHT_OF_A_CHANGE_HOUR = 40;

    private static final int MOST_ORDERS = 10;
    private static final int LEAST_ROLL_WIDTH = 20;
    private static final int MOST_ROLL_WIDTH = 400;
    private static final int MOST_ROLLS_OF_AN_ORDER = 50;
    private static final int MOST_ROLLS_OF_A_CUT = 6;

    private static final int MOST_SHARE = 50;
    private static final int FIRST_SHARE = 20;
    private static final int MOST_LIMIT = 9999;
    private static final int MOST_PRICE = 99;
    private static final int MASS_OF_A_LOSS = 50;
    private static final int MASS_OF_STEAM = 2;

    private static final int MOST_HOURS = 400;
    private static final int MOST_HOURS_OF_A_PASS = 48;
    private static final char NOTHING = 'n';
    private static final char CHANGE = 'c';
    private static final char PAPER = 'p';

    private final int[] weights;
    private int gradeCount;
    private int machineWidth;
    private int machineGrade;
    private int changeHours;
    private boolean upward;
    private final OrderBook orderBook;
    private final Cutter cutter;
    private final Contract contract;
    private final HourBook hourBook;
    private int share;
    private int brokeKept;
    private long steamSum;

    public PaperMachine() {
        weights = new int[MOST_GRADES];
        machineWidth = FIRST_WIDTH;
        machineGrade = NO_GRADE;
        upward = true;
        orderBook = new OrderBook();
        cutter = new Cutter();
        contract = new Contract();
        hourBook = new HourBook();
        share = FIRST_SHARE;
    }

    // ---- grades and changes

    public int addGrade(int weight) throws IllegalArgumentException, IllegalStateException {
        if (!isWithin(weight, LEAST_WEIGHT, MOST_WEIGHT) || isWeightTaken(weight)) {
            throw new IllegalArgumentException("the weight is out of range or taken");
        }
        if (gradeCount >= weights.length) {
            throw new IllegalStateException("there are 6 grades");
        }
        int number = gradeCount;
        weights[number] = weight;
        gradeCount++;
        return number;
    }

    public int setWidth(int width) throws IllegalArgumentException, IllegalStateException {
        if (!isWithin(width, LEAST_WIDTH, MOST_WIDTH)) {
            throw new IllegalArgumentException("the width is out of range");
        }
        if (orderBook.widestOpen() > width) {
            throw new IllegalStateException("an open order is wider");
        }
        int before = machineWidth;
        machineWidth = width;
        return before;
    }

    public int change(int grade)
            throws IndexOutOfBoundsException, IllegalArgumentException, IllegalStateException {
        if (!isGrade(grade)) {
            throw new IndexOutOfBoundsException("there is no such grade");
        }
        if (grade == machineGrade) {
            throw new IllegalArgumentException("the machine has this grade");
        }
        if (changeHours > 0) {
            throw new IllegalStateException("the machine is changing");
        }
        int takes = 1;
        if (isGrade(machineGrade)) {
            int heavier = weights[grade] - weights[machineGrade];
            takes += Math.abs(heavier) / WEIGHT_OF_A_CHANGE_HOUR;
            upward = heavier > 0;
        }
        machineGrade = grade;
        changeHours = takes;
        return takes;
    }

    public int grade() throws NoSuchElementException {
        if (!isGrade(machineGrade)) {
            throw new NoSuchElementException("the machine has no grade");
        }
        return machineGrade;
    }

    public int changing() {
        return changeHours;
    }

    public int next() throws NoSuchElementException {
        int found;
        if (isGrade(machineGrade)) {
            found = nearestWaiting(weights[machineGrade], upward);
            if (found == NO_GRADE) {
                found = nearestWaiting(weights[machineGrade], !upward);
            }
        } else {
            // A weight below all others makes the lightest one the nearest.
            found = nearestWaiting(0, true);
        }
        if (found == NO_GRADE) {
            throw new NoSuchElementException("no other grade has open orders");
        }
        return found;
    }

    public int mass(int grade) throws IndexOutOfBoundsException {
        if (!isGrade(grade)) {
            throw new IndexOutOfBoundsException("there is no such grade");
        }
        return massOfAnHour(grade);
    }

    // ---- orders and cutting

    public int order(int grade, int width, int rolls)
            throws IndexOutOfBoundsException, IllegalArgumentException,
            UnsupportedOperationException, IllegalStateException {
        if (!isGrade(grade)) {
            throw new IndexOutOfBoundsException("there is no such grade");
        }
        if (!isWithin(width, LEAST_ROLL_WIDTH, MOST_ROLL_WIDTH)
                || !isWithin(rolls, 1, MOST_ROLLS_OF_AN_ORDER)) {
            throw new IllegalArgumentException("the width or the number of rolls is out of range");
        }
        if (width > machineWidth) {
            throw new UnsupportedOperationException("the order is wider than the machine");
        }
        if (orderBook.isFull()) {
            throw new IllegalStateException("there are 10 orders");
        }
        return orderBook.write(grade, width, rolls);
    }

    public int cancel(int order) throws IndexOutOfBoundsException, IllegalStateException {
        if (!orderBook.has(order)) {
            throw new IndexOutOfBoundsException("there is no such order");
        }
        int lacked = orderBook.lacking[order];
        if (lacked <= 0) {
            throw new IllegalStateException("the order is not open");
        }
        orderBook.lacking[order] = 0;
        return lacked;
    }

    public int cut(int order) throws IndexOutOfBoundsException {
        if (!orderBook.has(order)) {
            throw new IndexOutOfBoundsException("there is no such order");
        }
        return orderBook.rollsCut[order];
    }

    public int lacks(int order) throws IndexOutOfBoundsException {
        if (!orderBook.has(order)) {
            throw new IndexOutOfBoundsException("there is no such order");
        }
        return orderBook.lacking[order];
    }

    public int trim(int grade) throws IndexOutOfBoundsException {
        if (!isGrade(grade)) {
            throw new IndexOutOfBoundsException("there is no such grade");
        }
        cutter.load(orderBook, grade, machineWidth);
        return machineWidth - cutter.sumBySearch();
    }

    public int trimByTable(int grade) throws IndexOutOfBoundsException {
        if (!isGrade(grade)) {
            throw new IndexOutOfBoundsException("there is no such grade");
        }
        cutter.load(orderBook, grade, machineWidth);
        return machineWidth - cutter.sumByTable();
    }

    public int inCut(int order) throws IndexOutOfBoundsException {
        if (!orderBook.has(order)) {
            throw new IndexOutOfBoundsException("there is no such order");
        }
        cutter.load(orderBook, orderBook.grades[order], machineWidth);
        cutter.sumBySearch();
        return cutter.best[order];
    }

    public int leastHours(int grade) throws IndexOutOfBoundsException {
        if (!isGrade(grade)) {
            throw new IndexOutOfBoundsException("there is no such grade");
        }
        int byWidth = quotientUp(orderBook.widthLacking(grade), machineWidth);
        int byNumber = quotientUp(orderBook.rollsLacking(grade), MOST_ROLLS_OF_A_CUT);
        return Math.max(byWidth, byNumber);
    }

    // ---- hours, broke and steam

    public int setShare(int percent) throws IllegalArgumentException {
        if (!isWithin(percent, 0, MOST_SHARE)) {
            throw new IllegalArgumentException("the share is out of range");
        }
        int before = share;
        share = percent;
        return before;
    }

    public int setContract(int limit, int first, int second) throws IllegalArgumentException {
        if (!isWithin(limit, 0, MOST_LIMIT) || !isWithin(first, 0, MOST_PRICE)
                || !isWithin(second, 0, MOST_PRICE)) {
            throw new IllegalArgumentException("the limit or a price is out of range");
        }
        int before = contract.limit;
        contract.limit = limit;
        contract.firstPrice = first;
        contract.secondPrice = second;
        return before;
    }

    public int pass(int hours) throws IllegalArgumentException, IllegalStateException {
        if (!isWithin(hours, 1, MOST_HOURS_OF_A_PASS)) {
            throw new IllegalArgumentException("the number of hours is out of range");
        }
        if (hours > MOST_HOURS - hourBook.count) {
            throw new IllegalStateException("more than 400 hours would have passed");
        }
        int rolls = 0;
        for (int i = 0; i < hours; i++) {
            rolls += passAnHour();
        }
        return rolls;
    }

    public int hours() {
        return hourBook.count;
    }

    public int broke() {
        return brokeKept;
    }

    public int brokeByHours() {
        return hourBook.fibreStillThere();
    }

    public long fresh() {
        return hourBook.freshSum;
    }

    public long paper() {
        return hourBook.paperSum;
    }

    public long lost() {
        return hourBook.lossSum;
    }

    public char made(int hour) throws IndexOutOfBoundsException {
        if (!hourBook.has(hour)) {
            throw new IndexOutOfBoundsException("this hour has not passed");
        }
        return hourBook.kinds[hour];
    }

    public long steamCost() {
        return steamSum;
    }

    // ---- figures

    public float paperShare() throws ArithmeticException {
        if (hourBook.massSum <= 0) {
            throw new ArithmeticException("nothing was made");
        }
        return (float) hourBook.paperSum / (float) hourBook.massSum;
    }

    public double meanTrim() throws ArithmeticException {
        if (hourBook.paperHours <= 0) {
            throw new ArithmeticException("no hour made paper");
        }
        return (double) hourBook.trimSum / (double) hourBook.paperHours;
    }

    // ---- grades, within

    private boolean isGrade(int number) {
        return number >= 0 && number < gradeCount;
    }

    private boolean isWeightTaken(int weight) {
        for (int i = 0; i < gradeCount; i++) {
            if (weights[i] == weight) {
                return true;
            }
        }
        return false;
    }

    private int massOfAnHour(int grade) {
        return isGrade(grade) ? weights[grade] * machineWidth / WIDTH_OF_MASS : 0;
    }

    /** The grade with open orders that is nearest to a weight on one side of it, or NO_GRADE. */
    private int nearestWaiting(int weight, boolean above) {
        int found = NO_GRADE;
        int least = 0;
        for (int i = 0; i < gradeCount; i++) {
            int distance = above ? weights[i] - weight : weight - weights[i];
            boolean nearer = distance > 0 && (found == NO_GRADE || distance < least);
            if (nearer && orderBook.rollsLacking(i) > 0) {
                found = i;
                least = distance;
            }
        }
        return found;
    }

    // ---- an hour, within

    /** Returns how many rolls the hour cut. */
    private int passAnHour() {
        if (!isGrade(machineGrade)) {
            hourBook.writeNothing();
            return 0;
        }
        int mass = massOfAnHour(machineGrade);
        if (changeHours > 0) {
            make(CHANGE, mass, mass);
            changeHours--;
            return 0;
        }
        cutter.load(orderBook, machineGrade, machineWidth);
        int sum = cutter.sumBySearch();
        if (sum <= 0) {
            hourBook.writeNothing();
            return 0;
        }
        int trimNow = machineWidth - sum;
        make(PAPER, mass, quotient(mass * trimNow, machineWidth));
        hourBook.writeTrim(trimNow);
        return orderBook.takeOff(cutter.best);
    }

    private void make(char kind, int mass, int brokeMade) {
        int loss = mass / MASS_OF_A_LOSS;
        int fibre = mass + loss;
        int fed = Math.min(brokeKept, fibre * share / 100);
        brokeKept += brokeMade - fed;
        hourBook.writeMade(kind, fibre - fed, mass - brokeMade, loss);
        hourBook.massSum += mass;
        steamSum += contract.cost(mass / MASS_OF_STEAM);
    }

    // ---- numbers

    private static boolean isWithin(int number, int least, int most) {
        return number >= least && number <= most;
    }

    private static int quotient(int dividend, int divisor) {
        return divisor > 0 ? dividend / divisor : 0;
    }

    private static int quotientUp(int dividend, int divisor) {
        return divisor > 0 ? (dividend + divisor - 1) / divisor : 0;
    }

    /** All orders by their numbers; one that is closed keeps its row. */
    private static final class OrderBook {
        final int[] grades = new int[MOST_ORDERS];
        final int[] widths = new int[MOST_ORDERS];
        final int[] rollsCut = new int[MOST_ORDERS];
        final int[] lacking = new int[MOST_ORDERS];
        int count;

        boolean has(int number) {
            return number >= 0 && number < count;
        }

        boolean isFull() {
            return count >= MOST_ORDERS;
        }

        /** Returns the new order's number, or -1 where the book is full. */
        int write(int grade, int width, int rolls) {
            if (isFull()) {
                return -1;
            }
            int number = count;
            grades[number] = grade;
            widths[number] = width;
            rollsCut[number] = 0;
            lacking[number] = rolls;
            count++;
            return number;
        }

        /** The width of the widest open order, 0 if none is open. */
        int widestOpen() {
            int widest = 0;
            for (int i = 0; i < count; i++) {
                if (lacking[i] > 0) {
                    widest = Math.max(widest, widths[i]);
                }
            }
            return widest;
        }

        int rollsLacking(int grade) {
            int sum = 0;
            for (int i = 0; i < count; i++) {
                if (grades[i] == grade) {
                    sum += lacking[i];
                }
            }
            return sum;
        }

        int widthLacking(int grade) {
            int sum = 0;
            for (int i = 0; i < count; i++) {
                if (grades[i] == grade) {
                    sum += lacking[i] * widths[i];
                }
            }
            return sum;
        }

        /** Takes the rolls of a cut off what the orders lack, and returns their number. */
        int takeOff(int[] rolls) {
            int sum = 0;
            for (int i = 0; i < count && i < rolls.length; i++) {
                rollsCut[i] += rolls[i];
                lacking[i] -= rolls[i];
                sum += rolls[i];
            }
            return sum;
        }
    }

    /** Finds the cut of one grade; its rows are made once and used for every cut. */
    private static final class Cutter {
        private static final int TOO_MANY = MOST_ROLLS_OF_A_CUT + 1;

        final int[] best = new int[MOST_ORDERS];
        private final int[] trial = new int[MOST_ORDERS];
        private final int[] widths = new int[MOST_ORDERS];
        private final int[] mostRolls = new int[MOST_ORDERS];
        private final int[] widestFrom = new int[MOST_ORDERS];
        private final int[] fewest = new int[MOST_WIDTH + 1];
        private int room;
        private int bestSum;

        /** Takes over what each order can give to a cut; orders of other grades give nothing. */
        void load(OrderBook book, int grade, int width) {
            room = Math.max(0, Math.min(width, MOST_WIDTH));
            int widest = 0;
            for (int i = MOST_ORDERS - 1; i >= 0; i--) {
                boolean counts = book.has(i) && book.grades[i] == grade;
                widths[i] = book.widths[i];
                mostRolls[i] = counts ? Math.min(book.lacking[i], MOST_ROLLS_OF_A_CUT) : 0;
                widest = mostRolls[i] > 0 ? Math.max(widest, widths[i]) : widest;
                widestFrom[i] = widest;
            }
        }

        /** Returns the greatest sum of widths, and leaves its cut in best. */
        int sumBySearch() {
            bestSum = 0;
            Arrays.fill(best, 0);
            search(this, 0, MOST_ROLLS_OF_A_CUT, 0);
            return bestSum;
        }

        /**
         * Tries the orders from number at on. Many rolls of low numbers are tried first, so that
         * of several cuts with one sum the first that is found is the one that is due: a later
         * one counts only if its sum is greater, and what cannot be greater is left out.
         */
        private static void search(Cutter cutter, int at, int rollsLeft, int sum) {
            if (at < 0 || at >= MOST_ORDERS) {
                cutter.keepIfGreater(sum);
                return;
            }
            int canAdd = Math.min(rollsLeft * cutter.widestFrom[at], cutter.room - sum);
            if (sum + canAdd <= cutter.bestSum) {
                return;
            }
            for (int rolls = Math.min(cutter.mostRolls[at], rollsLeft); rolls >= 0; rolls--) {
                int newSum = sum + rolls * cutter.widths[at];
                if (newSum <= cutter.room) {
                    cutter.trial[at] = rolls;
                    search(cutter, at + 1, rollsLeft - rolls, newSum);
                }
            }
        }

        private void keepIfGreater(int sum) {
            if (sum > bestSum) {
                bestSum = sum;
                System.arraycopy(trial, 0, best, 0, MOST_ORDERS);
            }
        }

        /** Returns the greatest sum of widths, from the fewest rolls that make up each sum. */
        int sumByTable() {
            Arrays.fill(fewest, TOO_MANY);
            fewest[0] = 0;
            for (int i = 0; i < MOST_ORDERS; i++) {
                for (int roll = 0; roll < mostRolls[i]; roll++) {
                    addRollToTable(widths[i]);
                }
            }
            for (int sum = room; sum > 0; sum--) {
                if (fewest[sum] <= MOST_ROLLS_OF_A_CUT) {
                    return sum;
                }
            }
            return 0;
        }

        private void addRollToTable(int width) {
            // Downwards, so that this one roll is not counted twice in a sum.
            for (int sum = room; sum >= width && sum > 0; sum--) {
                fewest[sum] = Math.min(fewest[sum], fewest[sum - width] + 1);
            }
        }
    }

    /** What steam costs. */
    private static final class Contract {
        int limit = 2000;
        int firstPrice = 3;
        int secondPrice = 5;

        long cost(int steam) {
            int within = Math.min(steam, limit);
            return (long) within * firstPrice + (long) (steam - within) * secondPrice;
        }
    }

    /** What each hour took and gave, and the sums of it. */
    private static final class HourBook {
        final char[] kinds = new char[MOST_HOURS];
        private final int[] freshIn = new int[MOST_HOURS];
        private final int[] paperOut = new int[MOST_HOURS];
        private final int[] lossOut = new int[MOST_HOURS];
        int count;
        long freshSum;
        long paperSum;
        long lossSum;
        long massSum;
        long trimSum;
        int paperHours;

        boolean has(int hour) {
            return hour >= 0 && hour < count;
        }

        void writeNothing() {
            writeMade(NOTHING, 0, 0, 0);
        }

        void writeMade(char kind, int fresh, int paper, int loss) {
            if (count < 0 || count >= MOST_HOURS) {
                return;
            }
            kinds[count] = kind;
            freshIn[count] = fresh;
            paperOut[count] = paper;
            lossOut[count] = loss;
            count++;
            freshSum += fresh;
            paperSum += paper;
            lossSum += loss;
        }

        void writeTrim(int trim) {
            trimSum += trim;
            paperHours++;
        }

        /** Fibre in equals paper, broke and loss: what came in fresh and did not go out is broke. */
        int fibreStillThere() {
            int there = 0;
            for (int i = 0; i < count; i++) {
                there += freshIn[i] - paperOut[i] - lossOut[i];
            }
            return there;
        }
    }
}
