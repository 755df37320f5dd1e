import java.util.Random;

/** All promises together: long runs of calls, beside PlainMill, with equal answers and equal exceptions. */
public final class ModelTest {
    private static final int RUNS = 1200;
    /** As many calls as the document promises answers for. */
    private static final int CALLS = 512;
    private static final int CALLS_OF_THE_LAST_LOOK = 80;
    private static final int KINDS_OF_LOOKS = 18;
    private static final int FIRST_LOOK_AT_A_NUMBER = 13;

    private PaperMachine mill;
    private PlainMill plain;
    private Random random;
    private int calls;
    private String run;

    public static void main(String[] args) {
        for (int run = 0; run < RUNS; run++) {
            new ModelTest().run(run);
        }
        Check.end("ModelTest");
    }

    private void run(int number) {
        mill = new PaperMachine();
        plain = new PlainMill();
        random = new Random(number);
        calls = 0;
        run = "run " + number + ", call ";
        while (calls < CALLS - CALLS_OF_THE_LAST_LOOK) {
            int kind = random.nextInt(100);
            if (kind < 50) {
                write(number % 3);
            } else if (kind < 80) {
                lookAt(random.nextInt(KINDS_OF_LOOKS), about(0, 9));
            } else {
                cuts();
            }
        }
        lookAtAll();
        while (calls < CALLS) {
            cuts();
        }
        Check.same("calls of a run", calls, CALLS);
    }

    private int from(int least, int most) {
        return least + random.nextInt(most - least + 1);
    }

    /** Mostly a number within the range, now and then one beside it. */
    private int about(int least, int most) {
        int way = random.nextInt(20);
        return way == 0 ? least - 1 : way == 1 ? most + 1 : way == 2 ? least : way == 3 ? most : from(least, most);
    }

    private void both(String name, Check.Call ours, Check.Call theirs) {
        calls++;
        Check.same(run + calls + ": " + name, Check.told(ours), Check.told(theirs));
    }

    private void write(int stage) {
        int a = about(0, 5);
        switch (random.nextInt(calls < 30 ? 5 : 8)) {
            case 0 -> {
                int weight = random.nextInt(3) == 0 ? 40 * from(1, 5) : about(40, 200);
                both("addGrade(" + weight + ")", () -> mill.addGrade(weight), () -> plain.addGrade(weight));
            }
            case 1 -> {
                int width = stage == 0 ? about(200, 800) : stage == 1 ? about(200, 410) : 10 * about(20, 80);
                both("setWidth(" + width + ")", () -> mill.setWidth(width), () -> plain.setWidth(width));
            }
            case 2, 3 -> order(stage, random.nextInt(6) == 0 ? a : random.nextInt(2));
            case 4 -> {
                int percent = about(0, 50);
                both("setShare(" + percent + ")", () -> mill.setShare(percent), () -> plain.setShare(percent));
                int limit = random.nextBoolean() ? about(0, 9999) : about(500, 5000);
                int first = about(0, 99);
                int second = about(0, 99);
                both("setContract(" + limit + ", " + first + ", " + second + ")",
                        () -> mill.setContract(limit, first, second),
                        () -> plain.setContract(limit, first, second));
            }
            case 5 -> both("change(" + a + ")", () -> mill.change(a), () -> plain.change(a));
            case 6 -> {
                int hours = random.nextInt(60) == 0 ? about(1, 48) : about(1, 5);
                both("pass(" + hours + ")", () -> mill.pass(hours), () -> plain.pass(hours));
            }
            default -> {
                int order = random.nextInt(40);
                both("cancel(" + order + ")", () -> mill.cancel(order), () -> plain.cancel(order));
            }
        }
    }

    private void order(int stage, int grade) {
        int width = stage == 0 ? about(20, 400) : stage == 1 ? about(20, 120) : 10 * about(2, 40);
        int rolls = about(1, 50);
        both("order(" + grade + ", " + width + ", " + rolls + ")",
                () -> mill.order(grade, width, rolls), () -> plain.order(grade, width, rolls));
    }

    private void lookAtAll() {
        for (int kind = 0; kind < KINDS_OF_LOOKS; kind++) {
            boolean ofANumber = kind >= FIRST_LOOK_AT_A_NUMBER;
            for (int n = ofANumber ? -1 : 0; n <= (ofANumber ? 10 : 0); n++) {
                lookAt(kind, n);
            }
        }
    }

    private void lookAt(int kind, int n) {
        switch (kind) {
            case 0 -> both("grade()", mill::grade, plain::grade);
            case 1 -> both("changing()", mill::changing, plain::changing);
            case 2 -> both("next()", mill::next, plain::next);
            case 3 -> both("hours()", mill::hours, plain::hours);
            case 4 -> both("broke()", mill::broke, plain::broke);
            case 5 -> both("brokeByHours()", mill::brokeByHours, plain::broke);
            case 6 -> both("fresh()", mill::fresh, plain::fresh);
            case 7 -> both("paper()", mill::paper, plain::paper);
            case 8 -> both("lost()", mill::lost, plain::lost);
            case 9 -> both("steamCost()", mill::steamCost, plain::steamCost);
            case 10 -> both("paperShare()", mill::paperShare, plain::paperShare);
            case 11 -> both("meanTrim()", mill::meanTrim, plain::meanTrim);
            case 12 -> {
                int hour = about(0, Math.max(0, plain.hours() - 1));
                both("made(" + hour + ")", () -> mill.made(hour), () -> plain.made(hour));
            }
            case FIRST_LOOK_AT_A_NUMBER -> both("mass(" + n + ")", () -> mill.mass(n), () -> plain.mass(n));
            case 14 -> both("leastHours(" + n + ")", () -> mill.leastHours(n), () -> plain.leastHours(n));
            case 15 -> both("cut(" + n + ")", () -> mill.cut(n), () -> plain.cut(n));
            case 16 -> both("lacks(" + n + ")", () -> mill.lacks(n), () -> plain.lacks(n));
            default -> both("inCut(" + n + ")", () -> mill.inCut(n), () -> plain.inCut(n));
        }
    }

    private void cuts() {
        int grade = random.nextInt(3) == 0 ? about(0, 5) : random.nextInt(2);
        int order = about(0, 9);
        switch (random.nextInt(3)) {
            case 0 -> both("trim(" + grade + ")", () -> mill.trim(grade), () -> plain.trim(grade));
            case 1 -> both("trimByTable(" + grade + ")", () -> mill.trimByTable(grade), () -> plain.trim(grade));
            default -> both("inCut(" + order + ")", () -> mill.inCut(order), () -> plain.inCut(order));
        }
    }
}
