/**
 * Hours, broke, steam and figures at their edges, promises 17 to 29: for each sentence of the
 * document that names an edge a test of its own, which begins with the sentence.
 */
public final class HourEdgesTest {
    private static final String INDEX = "IndexOutOfBoundsException";
    private static final String ARGUMENT = "IllegalArgumentException";
    private static final String STATE = "IllegalStateException";
    private static final String ARITHMETIC = "ArithmeticException";

    public static void main(String[] args) {
        termsOfHours();
        termsOfSteam();
        setShare();
        setContract();
        pass();
        sums();
        made();
        paperShare();
        meanTrim();
        Check.end("HourEdgesTest");
    }

    private static void termsOfHours() {
        nothingWithoutAGrade();
        nothingIfNoRollCanBeCut();
        lossRoundedDown();
        brokeIsAllThatIsThere();
        brokeIsTheShare();
        shareRoundedDown();
        shareAtFirst();
        trimRoundedDown();
        trimOfNothing();
        brokeFromTheNextHourOn();
        oneHourLessToGo();
        fibreInAndOut();
    }

    private static void termsOfSteam() {
        steamRoundedDown();
        steamUpToTheLimit();
        steamAtFirst();
    }

    private static void setShare() {
        leastAndGreatestShare();
        shareBefore();
        shareOutOfRange();
    }

    private static void setContract() {
        leastAndGreatestContract();
        limitBefore();
        contractOutOfRange();
        contractFromThenOn();
    }

    private static void pass() {
        leastAndGreatestPass();
        passReturnsTheRolls();
        passOutOfRange();
        passBeyondTheEnd();
        passOrder();
        hoursThatHavePassed();
    }

    private static void sums() {
        sumsOfNothing();
        brokeByHoursIsBroke();
        sumsOfAllThatIsPossible();
    }

    private static void made() {
        madeOfEachKind();
        madeOfNoHour();
        madeUpToTheEnd();
    }

    private static void paperShare() {
        paperShareOfNothing();
        paperShareOfBroke();
    }

    private static void meanTrim() {
        meanTrimWithoutPaper();
        meanTrimOfPaper();
    }

    private static void sumsAre(PaperMachine mill, String name, long broke, long fresh, long paper, long lost) {
        Check.same(name + ": broke", mill.broke(), broke);
        Check.same(name + ": brokeByHours", mill.brokeByHours(), broke);
        Check.same(name + ": fresh", mill.fresh(), fresh);
        Check.same(name + ": paper", mill.paper(), paper);
        Check.same(name + ": lost", mill.lost(), lost);
    }

    /** A mill of one grade whose first hour, that of the change, is still to come. */
    private static PaperMachine beforeItsFirst(int weight, int width) {
        PaperMachine mill = Mills.of(weight);
        mill.setWidth(width);
        mill.change(0);
        return mill;
    }

    // ---- the terms of hours

    private static void nothingWithoutAGrade() {
        Check.sentence("Hours", "the machine does nothing if it has no grade");
        PaperMachine mill = Mills.of(100);
        mill.order(0, 100, 5);
        Check.same("rolls", mill.pass(48), 0);
        sumsAre(mill, "48 hours", 0, 0, 0, 0);
        Check.same("steamCost", mill.steamCost(), 0);
        Check.same("lacks", mill.lacks(0), 5);
        Check.same("made", mill.made(47), 'n');
        Check.same("pass without grades at all", new PaperMachine().pass(48), 0);
    }

    private static void nothingIfNoRollCanBeCut() {
        Check.sentence("Hours", "or if it is not changing and no roll can be cut");
        PaperMachine mill = Mills.running(600, 100, 50);
        long cost = mill.steamCost();
        mill.pass(1);
        sumsAre(mill, "without orders", 6000, 6120, 0, 120);
        mill.order(1, 100, 5);
        mill.pass(1);
        sumsAre(mill, "with orders of another grade", 6000, 6120, 0, 120);
        mill.order(0, 100, 5);
        mill.cancel(1);
        mill.pass(1);
        sumsAre(mill, "with a cancelled order", 6000, 6120, 0, 120);
        Check.same("steamCost", mill.steamCost(), cost);
        mill.order(0, 400, 1);
        mill.pass(1);
        Check.same("paper of one roll", mill.paper(), 4000);
        mill.pass(1);
        Check.same("paper when it is cut", mill.paper(), 4000);
        Check.same("what this hour made", mill.made(mill.hours() - 1), 'n');
        mill.cancel(0);
        mill.change(1);
        mill.pass(1);
        Check.same("what an hour of a change without orders made", mill.made(mill.hours() - 1), 'c');
    }

    private static void lossRoundedDown() {
        Check.sentence("Hours", "the loss is one part of 50, rounded down, which is lost besides");
        int[][] cases = {{41, 256, 1049, 20}, {42, 250, 1050, 21}, {48, 219, 1051, 21}, {40, 200, 800, 16},
            {200, 800, 16000, 320}};
        for (int[] c : cases) {
            PaperMachine mill = beforeItsFirst(c[0], c[1]);
            mill.pass(1);
            sumsAre(mill, "a mass of " + c[2], c[2], c[2] + c[3], 0, c[3]);
        }
    }

    /** The first change to one weight, then one hour of a change to another, at a share of 50. */
    private static PaperMachine twoHours(int first, int second) {
        PaperMachine mill = Mills.of(first, second);
        mill.setShare(50);
        Mills.goOver(mill, 0);
        mill.change(1);
        mill.pass(1);
        return mill;
    }

    private static void brokeIsAllThatIsThere() {
        Check.sentence("Hours", "Broke is fed first: as much as there was at the beginning of the hour");
        // 6242 * 50 / 100 = 3121, one more than the 3120 that are there.
        sumsAre(twoHours(52, 102), "one less than the share", 6120, 3182 + 6242 - 3120, 0, 62 + 122);
        // 6120 * 50 / 100 = 3060, just what is there.
        sumsAre(twoHours(51, 100), "as much as the share", 6000, 3121 + 6120 - 3060, 0, 61 + 120);
        sumsAre(twoHours(40, 200), "much less than the share", 12000, 2448 + 12240 - 2400, 0, 48 + 240);
    }

    private static void brokeIsTheShare() {
        Check.sentence("Hours", "but at most the share of the fibre, in percent, rounded down");
        // 9118 * 50 / 100 = 4559, one less than the 4560 that are there.
        sumsAre(twoHours(76, 149), "one more than the share", 8941, 4651 + 9118 - 4559, 0, 91 + 178);
        sumsAre(twoHours(200, 40), "much more than the share", 12000 + 2400 - 1224, 12240 + 2448 - 1224, 0, 240 + 48);
    }

    private static void shareRoundedDown() {
        Check.sentence("Hours", "in percent, rounded down");
        PaperMachine mill = beforeItsFirst(106, 472);
        mill.order(0, 236, 50);
        mill.pass(1);
        sumsAre(mill, "a mass of 5003", 5003, 5103, 0, 100);
        mill.setShare(33);
        mill.pass(1);
        // 5103 * 33 / 100 = 1683.99
        sumsAre(mill, "a share of 33", 5003 - 1683, 5103 + 5103 - 1683, 5003, 200);
        mill.setShare(1);
        mill.pass(1);
        // 5103 / 100 = 51.03
        sumsAre(mill, "a share of 1", 3320 - 51, 8523 + 5103 - 51, 10006, 300);
        mill.setShare(0);
        mill.pass(1);
        sumsAre(mill, "a share of 0", 3269, 13575 + 5103, 15009, 400);
    }

    private static void shareAtFirst() {
        Check.sentence("Hours", "the share is at first 20");
        PaperMachine mill = Mills.running(600, 100);
        mill.order(0, 300, 2);
        mill.pass(1);
        sumsAre(mill, "an hour at the first share", 6000 - 1224, 6120 + 6120 - 1224, 6000, 240);
        Check.same("setShare of a new mill", new PaperMachine().setShare(20), 20);
    }

    private static void trimRoundedDown() {
        Check.sentence("Hours", "the mass times the trim, divided by the width of the machine, rounded down, is broke");
        PaperMachine mill = beforeItsFirst(83, 607);
        mill.setShare(0);
        mill.order(0, 199, 3);
        mill.pass(1);
        mill.pass(1);
        // 5038 * 10 / 607 = 82.998
        sumsAre(mill, "a trim of 10", 5038 + 82, 2 * 5138, 5038 - 82, 200);
        mill.order(0, 20, 1);
        mill.pass(1);
        // 5038 * 587 / 607 = 4872.003
        sumsAre(mill, "a trim of 587", 5120 + 4872, 3 * 5138, 4956 + 166, 300);
    }

    private static void trimOfNothing() {
        Check.sentence("Hours", "and the rest is paper");
        PaperMachine full = Mills.running(800, 200);
        full.setShare(0);
        full.order(0, 400, 2);
        full.pass(1);
        sumsAre(full, "no trim", 16000, 2 * 16320, 16000, 640);
        PaperMachine least = Mills.running(800, 40);
        least.setShare(0);
        least.order(0, 20, 1);
        least.pass(1);
        sumsAre(least, "the greatest trim", 3200 + 3120, 2 * 3264, 80, 128);
    }

    private static void brokeFromTheNextHourOn() {
        Check.sentence("Hours", "The broke can be fed from the next hour on.");
        PaperMachine mill = Mills.of(100, 200);
        mill.setShare(50);
        mill.change(0);
        mill.pass(1);
        sumsAre(mill, "the first hour of all", 6000, 6120, 0, 120);
        mill.order(0, 20, 1);
        mill.pass(1);
        // The hour makes 5800 of broke, and feeds 3060 of the 6000.
        sumsAre(mill, "the second hour", 6000 - 3060 + 5800, 6120 + 3060, 200, 240);
        mill.change(1);
        mill.pass(2);
        // The first hour feeds 6120 of 8740, the second one 6120 of 14620.
        sumsAre(mill, "two hours at once", 8740 + 2 * (12000 - 6120), 9180 + 2 * 6120, 200, 240 + 480);
    }

    private static void oneHourLessToGo() {
        Check.sentence("Hours", "Then a change has one hour less to go.");
        PaperMachine mill = Mills.running(600, 40, 120);
        mill.order(1, 300, 50);
        mill.change(1);
        Check.same("rolls of 2 hours of 3", mill.pass(2), 0);
        Check.same("changing", mill.changing(), 1);
        Check.same("rolls of the third hour", mill.pass(1), 0);
        Check.same("rolls of the hour after it", mill.pass(1), 2);
        PaperMachine atOnce = Mills.running(600, 40, 120);
        atOnce.order(1, 300, 50);
        atOnce.change(1);
        Check.same("rolls of 4 hours at once", atOnce.pass(4), 2);
    }

    private static void fibreInAndOut() {
        Check.sentence("Terms", "Fibre in equals paper, broke and loss.");
        PaperMachine mill = Mills.of(59, 143);
        mill.setWidth(613);
        mill.order(0, 151, 21);
        mill.order(1, 97, 33);
        mill.order(0, 77, 7);
        for (int hour = 0; hour < 30; hour++) {
            if (hour % 10 == 1) {
                mill.change(hour / 10 % 2);
            }
            mill.pass(1);
            Check.same("fresh fibre in " + hour + " hours", mill.fresh(), mill.paper() + mill.broke() + mill.lost());
        }
    }

    // ---- the terms of steam

    private static void steamRoundedDown() {
        Check.sentence("Steam", "An hour needs as much steam as half the mass that it makes, rounded down.");
        int[][] cases = {{62, 645, 1999}, {50, 800, 2000}, {53, 755, 2000}, {58, 690, 2001}, {40, 200, 400},
            {200, 800, 8000}};
        for (int[] c : cases) {
            PaperMachine mill = beforeItsFirst(c[0], c[1]);
            mill.setContract(9999, 1, 99);
            mill.pass(1);
            Check.same("steam of " + c[0] + " on " + c[1], mill.steamCost(), c[2]);
        }
    }

    private static void steamUpToTheLimit() {
        Check.sentence("Steam", "each kilogram costs the first price up to the limit of an hour, and the second one");
        int[][] limitsAndCosts = {{2998, 2998 * 7 + 2 * 11}, {2999, 2999 * 7 + 11}, {3000, 3000 * 7}, {3001, 3000 * 7},
            {0, 3000 * 11}, {1, 7 + 2999 * 11}, {9999, 3000 * 7}};
        for (int[] c : limitsAndCosts) {
            PaperMachine mill = beforeItsFirst(100, 600);
            mill.setContract(c[0], 7, 11);
            mill.pass(1);
            Check.same("3000 of steam at a limit of " + c[0], mill.steamCost(), c[1]);
            mill.order(0, 300, 4);
            mill.pass(2);
            Check.same("3 hours of it at a limit of " + c[0], mill.steamCost(), 3L * c[1]);
        }
    }

    private static void steamAtFirst() {
        Check.sentence("Steam", "At first, the limit is 2000, the first price is 3, and the second one is 5.");
        int[][] cases = {{62, 645, 1999 * 3}, {50, 800, 2000 * 3}, {58, 690, 2000 * 3 + 5}};
        for (int[] c : cases) {
            PaperMachine mill = beforeItsFirst(c[0], c[1]);
            mill.pass(1);
            Check.same("the cost of " + c[0] + " on " + c[1], mill.steamCost(), c[2]);
        }
    }

    // ---- promises 17 and 18

    private static void leastAndGreatestShare() {
        Check.sentence("setShare", "the share in percent, 0 to 50");
        int[] shares = {0, 1, 49, 50};
        int[] fed = {0, 61, 2998, 3060};
        for (int i = 0; i < shares.length; i++) {
            PaperMachine mill = Mills.running(600, 100);
            mill.order(0, 300, 2);
            mill.setShare(shares[i]);
            mill.pass(1);
            Check.same("broke after an hour at " + shares[i], mill.broke(), 6000 - fed[i]);
        }
    }

    private static void shareBefore() {
        Check.sentence("setShare", "Returns the share before.");
        PaperMachine mill = new PaperMachine();
        Check.same("setShare(50)", mill.setShare(50), 20);
        Check.same("setShare(50) again", mill.setShare(50), 50);
        Check.same("setShare(0)", mill.setShare(0), 50);
        Check.same("setShare(1)", mill.setShare(1), 0);
    }

    private static void shareOutOfRange() {
        Check.sentence("setShare", "IllegalArgumentException if the share is out of range");
        for (int share : new int[] {-1, 51, 100, Integer.MAX_VALUE, Integer.MIN_VALUE}) {
            Twin.refused("setShare(" + share + ")", ARGUMENT, () -> Mills.running(600, 100, 150),
                    m -> m.setShare(share));
        }
    }

    private static void leastAndGreatestContract() {
        Check.sentence("setContract", "the limit, 0 to 9999");
        int[][] contracts = {{0, 0, 0}, {9999, 99, 99}, {9999, 0, 99}, {0, 99, 0}, {0, 0, 99}, {1, 1, 1},
            {9998, 98, 98}};
        int[] costs = {0, 297000, 0, 0, 297000, 3000, 294000};
        for (int i = 0; i < contracts.length; i++) {
            int[] c = contracts[i];
            PaperMachine mill = beforeItsFirst(100, 600);
            Check.same("the limit before", mill.setContract(c[0], c[1], c[2]), 2000);
            mill.pass(1);
            Check.same("the cost by " + c[0] + ", " + c[1] + ", " + c[2], mill.steamCost(), costs[i]);
        }
    }

    private static void limitBefore() {
        Check.sentence("setContract", "Returns the limit before.");
        PaperMachine mill = new PaperMachine();
        Check.same("setContract(0, 1, 2)", mill.setContract(0, 1, 2), 2000);
        Check.same("setContract(9999, 3, 4)", mill.setContract(9999, 3, 4), 0);
        Check.same("setContract(9999, 5, 6)", mill.setContract(9999, 5, 6), 9999);
        Check.same("setContract(7, 5, 6)", mill.setContract(7, 5, 6), 9999);
    }

    private static void contractOutOfRange() {
        Check.sentence("setContract", "IllegalArgumentException if a number is out of range");
        int[][] wrong = {{-1, 1, 1}, {10000, 1, 1}, {1, -1, 1}, {1, 100, 1}, {1, 1, -1}, {1, 1, 100},
            {Integer.MAX_VALUE, 1, 1}, {1, Integer.MIN_VALUE, 1}, {1, 1, Integer.MAX_VALUE}, {-1, 100, 100}};
        for (int[] w : wrong) {
            Twin.refused("setContract(" + w[0] + ", " + w[1] + ", " + w[2] + ")", ARGUMENT,
                    () -> Mills.running(600, 100, 150), m -> m.setContract(w[0], w[1], w[2]));
        }
    }

    private static void contractFromThenOn() {
        Check.sentence("setContract", "it counts for hours that pass from then on");
        PaperMachine mill = beforeItsFirst(100, 600);
        mill.order(0, 300, 4);
        mill.setContract(9999, 2, 0);
        mill.pass(1);
        mill.setContract(0, 0, 3);
        Check.same("what an hour has cost", mill.steamCost(), 6000);
        mill.pass(1);
        mill.setContract(9999, 0, 0);
        Check.same("what two hours have cost", mill.steamCost(), 15000);
        mill.pass(1);
        Check.same("what three hours have cost", mill.steamCost(), 15000);
    }

    // ---- promises 19 and 20

    private static void leastAndGreatestPass() {
        Check.sentence("pass", "the number of hours, 1 to 48");
        for (int hours : new int[] {1, 2, 47, 48}) {
            PaperMachine mill = new PaperMachine();
            Check.same("pass(" + hours + ")", mill.pass(hours), 0);
            Check.same("hours", mill.hours(), hours);
        }
    }

    private static void passReturnsTheRolls() {
        Check.sentence("pass", "Returns the number of rolls that were cut.");
        PaperMachine mill = Mills.running(600, 100);
        mill.order(0, 100, 7);
        mill.order(0, 300, 2);
        Check.same("rolls of the first hour", mill.pass(1), 6);
        Check.same("rolls of the second hour", mill.pass(1), 2);
        Check.same("rolls of two more hours", mill.pass(2), 1);
        Check.same("rolls of hours that cut none", mill.pass(48), 0);
        PaperMachine most = Mills.running(600, 100);
        Mills.fillWithOrders(most, 100, 50);
        Check.same("the most rolls of one call", most.pass(48), 48 * 6);
        Check.same("the rest of 500", most.pass(48), 500 - 48 * 6);
    }

    private static PaperMachine atWork() {
        PaperMachine mill = Mills.running(600, 100, 180);
        mill.order(0, 250, 50);
        mill.order(1, 300, 50);
        mill.change(1);
        return mill;
    }

    private static void passOutOfRange() {
        Check.sentence("pass", "IllegalArgumentException if the number is out of range");
        for (int hours : new int[] {0, 49, -1, 400, 401, Integer.MAX_VALUE, Integer.MIN_VALUE}) {
            Twin.refused("pass(" + hours + ")", ARGUMENT, HourEdgesTest::atWork, m -> m.pass(hours));
        }
    }

    /** A mill of which so many hours have passed, the last of them the first one of a change. */
    private static PaperMachine at(int hours) {
        PaperMachine mill = atWork();
        Mills.passMany(mill, hours - 2);
        mill.change(0);
        mill.pass(1);
        return mill;
    }

    private static void passBeyondTheEnd() {
        Check.sentence("pass", "IllegalStateException if more than 400 hours would have passed");
        Twin.refused("pass(1) at 400", STATE, () -> at(400), m -> m.pass(1));
        Twin.refused("pass(48) at 400", STATE, () -> at(400), m -> m.pass(48));
        Twin.refused("pass(2) at 399", STATE, () -> at(399), m -> m.pass(2));
        Twin.refused("pass(48) at 353", STATE, () -> at(353), m -> m.pass(48));
        Twin.refused("pass(48) at 398", STATE, () -> at(398), m -> m.pass(48));
        int[][] fits = {{399, 1, 0}, {398, 2, 0}, {353, 47, 50}, {352, 48, 50}, {351, 48, 50}};
        for (int[] f : fits) {
            PaperMachine mill = at(f[0]);
            Check.same("hours before", mill.hours(), f[0]);
            Check.same("pass(" + f[1] + ") at " + f[0], mill.pass(f[1]), f[2]);
            Check.same("hours after", mill.hours(), f[0] + f[1]);
        }
    }

    private static void passOrder() {
        Check.sentence("Exceptions", "If several exceptions apply, the one that is documented first is thrown.");
        for (int hours : new int[] {49, 50, Integer.MAX_VALUE}) {
            Twin.refused("pass(" + hours + ") at 400", ARGUMENT, () -> at(400), m -> m.pass(hours));
            Twin.refused("pass(" + hours + ") at 352", ARGUMENT, () -> at(352), m -> m.pass(hours));
        }
        Twin.refused("pass(0) at 400", ARGUMENT, () -> at(400), m -> m.pass(0));
        Twin.refused("pass(-1) at 400", ARGUMENT, () -> at(400), m -> m.pass(-1));
    }

    private static void hoursThatHavePassed() {
        Check.sentence("hours", "Returns how many hours have passed.");
        PaperMachine mill = Mills.of(100);
        Check.same("hours at first", mill.hours(), 0);
        mill.pass(1);
        Check.same("hours that did nothing count", mill.hours(), 1);
        mill.change(0);
        mill.pass(1);
        Check.same("hours of a change count", mill.hours(), 2);
        mill.order(0, 100, 1);
        mill.pass(1);
        Check.same("hours of paper count", mill.hours(), 3);
        Mills.passMany(mill, 397);
        Check.same("hours at the end", mill.hours(), 400);
    }

    // ---- promises 21 to 25 and 27

    private static void sumsOfNothing() {
        Check.sentence("PaperMachine", "at the hour 0");
        sumsAre(new PaperMachine(), "a new mill", 0, 0, 0, 0);
        Check.same("steamCost of a new mill", new PaperMachine().steamCost(), 0);
        sumsAre(beforeItsFirst(100, 600), "a change of which no hour has passed", 0, 0, 0, 0);
        Check.same("steamCost of it", beforeItsFirst(100, 600).steamCost(), 0);
    }

    private static void brokeByHoursIsBroke() {
        Check.sentence("brokeByHours", "Returns the same mass, found from what went in and came out hour by hour.");
        PaperMachine mill = Mills.of(40, 200);
        mill.setShare(50);
        mill.order(0, 200, 50);
        Check.same("brokeByHours at first", mill.brokeByHours(), 0);
        Mills.goOver(mill, 1);
        Mills.goOver(mill, 0);
        Check.same("broke after the changes", mill.broke(), 12000 + 5 * (2400 - 1224));
        for (int fed = 0; fed < 15; fed++) {
            Check.same("brokeByHours after " + fed + " hours of paper", mill.brokeByHours(), 17880 - fed * 1224);
            mill.pass(1);
        }
        Check.same("broke when all of it is fed", mill.broke(), 0);
        Check.same("brokeByHours when all of it is fed", mill.brokeByHours(), 0);
    }

    private static void sumsOfAllThatIsPossible() {
        Check.sentence("pass", "if more than 400 hours would have passed");
        PaperMachine mill = Mills.of(200, 199);
        mill.setWidth(800);
        mill.setShare(0);
        mill.setContract(0, 0, 99);
        Mills.fillWithOrders(mill, 400, 50);
        Mills.goOver(mill, 0);
        Mills.passMany(mill, 250);
        sumsAre(mill, "500 rolls of the greatest width", 16000, 251 * 16320, 250 * 16000, 251 * 320);
        Check.same("steamCost of 251 hours", mill.steamCost(), 251L * 8000 * 99);
        for (int i = 0; i < 74; i++) {
            Mills.goOver(mill, 1);
            Mills.goOver(mill, 0);
        }
        mill.pass(1);
        Check.same("hours", mill.hours(), 400);
        // 199 makes 15920, of which 318 is lost.
        sumsAre(mill, "148 changes", 75 * 16000 + 74 * 15920, 325 * 16320 + 74 * 16238,
                250 * 16000, 325 * 320 + 74 * 318);
        Check.same("steamCost of 400 hours", mill.steamCost(), (325L * 8000 + 74 * 7960) * 99);
        Check.same("paperShare", mill.paperShare(), 4000000f / (325 * 16000 + 74 * 15920));
        Check.same("meanTrim", mill.meanTrim(), 0.0);
    }

    // ---- promise 26

    private static void madeOfEachKind() {
        Check.sentence("made", "Returns 'n' if it did nothing, 'c' if it was one of a change, 'p' if it made paper.");
        PaperMachine mill = Mills.of(80, 120);
        mill.order(1, 400, 2);
        mill.pass(1);
        mill.change(0);
        mill.pass(2);
        mill.change(1);
        mill.pass(5);
        String due = "ncnccppn";
        for (int i = 0; i < due.length(); i++) {
            Check.same("made(" + i + ")", mill.made(i), due.charAt(i));
        }
    }

    private static PaperMachine afterTwoHours() {
        PaperMachine mill = Mills.running(600, 100, 150);
        mill.order(0, 300, 2);
        mill.pass(1);
        return mill;
    }

    private static void madeOfNoHour() {
        Check.sentence("made", "IndexOutOfBoundsException if this hour has not passed");
        Twin.refused("made(0) of a new mill", INDEX, PaperMachine::new, m -> m.made(0));
        Twin.refused("made(0) in a change of which no hour has passed", INDEX,
                () -> beforeItsFirst(100, 600), m -> m.made(0));
        for (int hour : new int[] {-1, 2, 3, 399, 400, Integer.MAX_VALUE, Integer.MIN_VALUE}) {
            Twin.refused("made(" + hour + ") after 2 hours", INDEX, HourEdgesTest::afterTwoHours, m -> m.made(hour));
        }
        Twin.looks("made(0) after 2 hours", 'c', HourEdgesTest::afterTwoHours, m -> m.made(0));
        Twin.looks("made(1) after 2 hours", 'p', HourEdgesTest::afterTwoHours, m -> m.made(1));
    }

    private static void madeUpToTheEnd() {
        Check.sentence("made", "the hour, from 0");
        PaperMachine mill = at(400);
        Check.same("made(0) at 400", mill.made(0), 'c');
        Check.same("made(399) at 400", mill.made(399), 'c');
        Check.same("made(398) at 400", mill.made(398), 'n');
        Check.refused("made(400) at 400", INDEX, () -> mill.made(400));
        Check.refused("made(-1) at 400", INDEX, () -> mill.made(-1));
        PaperMachine early = at(399);
        Check.same("made(398) at 399", early.made(398), 'c');
        Check.refused("made(399) at 399", INDEX, () -> early.made(399));
    }

    // ---- promises 28 and 29

    private static void paperShareOfNothing() {
        Check.sentence("paperShare", "ArithmeticException if nothing was made");
        Twin.refused("paperShare of a new mill", ARITHMETIC, PaperMachine::new, PaperMachine::paperShare);
        Twin.refused("paperShare of hours that did nothing", ARITHMETIC, () -> {
            PaperMachine mill = Mills.of(100);
            mill.order(0, 100, 1);
            mill.pass(9);
            return mill;
        }, PaperMachine::paperShare);
        Twin.refused("paperShare before the first hour of a change", ARITHMETIC,
                () -> beforeItsFirst(100, 600), PaperMachine::paperShare);
    }

    private static void paperShareOfBroke() {
        Check.sentence("paperShare", "Returns the paper divided by all that was made, broke included");
        Twin.looks("paperShare of a change alone", 0.0f, () -> Mills.running(200, 40), PaperMachine::paperShare);
        Twin.looks("paperShare of one hour of two", 0.5f, HourEdgesTest::afterTwoHours, PaperMachine::paperShare);
        PaperMachine mill = Mills.running(600, 100);
        mill.order(0, 400, 1);
        mill.pass(1);
        Check.same("paperShare of 4000 in 12000", mill.paperShare(), 4000f / 12000f);
        mill.pass(5);
        Check.same("paperShare of it when nothing more is made", mill.paperShare(), 4000f / 12000f);
    }

    private static void meanTrimWithoutPaper() {
        Check.sentence("meanTrim", "ArithmeticException if no hour made paper");
        Twin.refused("meanTrim of a new mill", ARITHMETIC, PaperMachine::new, PaperMachine::meanTrim);
        Twin.refused("meanTrim of a change alone", ARITHMETIC, () -> Mills.running(600, 100), PaperMachine::meanTrim);
        Twin.refused("meanTrim of a change and hours that did nothing", ARITHMETIC, () -> {
            PaperMachine mill = Mills.running(600, 100);
            mill.pass(9);
            return mill;
        }, PaperMachine::meanTrim);
    }

    private static void meanTrimOfPaper() {
        Check.sentence("meanTrim", "Returns the sum of the trims divided by the number of these hours");
        Twin.looks("meanTrim without any trim", 0.0, HourEdgesTest::afterTwoHours, PaperMachine::meanTrim);
        PaperMachine mill = Mills.running(800, 100);
        mill.order(0, 20, 1);
        mill.pass(3);
        Check.same("meanTrim of the greatest trim", mill.meanTrim(), 780.0);
        mill.order(0, 400, 3);
        mill.pass(3);
        Check.same("meanTrim of 780, 0 and 400", mill.meanTrim(), 1180.0 / 3.0);
        mill.setWidth(200);
        Check.same("meanTrim at another width", mill.meanTrim(), 1180.0 / 3.0);
    }
}
