/** Promises 17 to 29 in ordinary use: hours, broke, steam and figures. */
public final class HoursTest {
    private static final String INDEX = "IndexOutOfBoundsException";
    private static final String ARGUMENT = "IllegalArgumentException";
    private static final String ARITHMETIC = "ArithmeticException";

    private static void sums(PaperMachine mill, String name, int broke, long fresh, long paper, long lost) {
        Check.same(name + ": broke", mill.broke(), broke);
        Check.same(name + ": brokeByHours", mill.brokeByHours(), broke);
        Check.same(name + ": fresh", mill.fresh(), fresh);
        Check.same(name + ": paper", mill.paper(), paper);
        Check.same(name + ": lost", mill.lost(), lost);
    }

    public static void main(String[] args) {
        setShareAndContract();
        hoursThatDoNothing();
        hoursOfAChange();
        hoursOfPaper();
        massIsRoundedDown();
        brokeIsFedByTheShare();
        brokeIsFedWhole();
        steam();
        steamByNewContracts();
        made();
        figures();
        Check.end("HoursTest");
    }

    private static void setShareAndContract() {
        PaperMachine mill = Mills.of(100);
        Check.same("setShare(30)", mill.setShare(30), 20);
        Check.refused("setShare(60)", ARGUMENT, () -> mill.setShare(60));
        Check.same("setShare(10)", mill.setShare(10), 30);
        Check.same("setContract(1500, 2, 4)", mill.setContract(1500, 2, 4), 2000);
        Check.refused("setContract(1500, 2, 400)", ARGUMENT, () -> mill.setContract(1500, 2, 400));
        Check.same("setContract(2500, 1, 6)", mill.setContract(2500, 1, 6), 1500);
        mill.change(0);
        Check.refused("pass(60)", ARGUMENT, () -> mill.pass(60));
        mill.pass(1);
        Check.same("steam of 3000 at a limit of 2500", mill.steamCost(), 2500 + 500 * 6);
    }

    private static void hoursThatDoNothing() {
        PaperMachine mill = Mills.of(100, 150);
        mill.order(0, 100, 5);
        Check.same("pass without a grade", mill.pass(2), 0);
        sums(mill, "without a grade", 0, 0, 0, 0);
        Check.same("lacks without a grade", mill.lacks(0), 5);
        mill.change(1);
        mill.pass(1);
        sums(mill, "after the change", 9000, 9180, 0, 180);
        long cost = mill.steamCost();
        Check.same("pass without an order of the grade", mill.pass(3), 0);
        sums(mill, "without an order of the grade", 9000, 9180, 0, 180);
        Check.same("steamCost without an order of the grade", mill.steamCost(), cost);
        Check.same("hours", mill.hours(), 6);
    }

    private static void hoursOfAChange() {
        PaperMachine mill = Mills.of(80, 160);
        mill.order(0, 300, 2);
        mill.order(1, 300, 2);
        mill.change(0);
        Check.same("rolls in the hour of a change", mill.pass(1), 0);
        sums(mill, "the first change, of 4800", 4800, 4896, 0, 96);
        mill.change(1);
        mill.setWidth(400);
        Check.same("rolls in the hours of a change", mill.pass(3), 0);
        // Each hour makes 6400 of the new grade at the new width and feeds 20 of 100 of 6528: 1305.
        sums(mill, "the second change", 4800 + 3 * (6400 - 1305), 4896 + 3 * (6528 - 1305), 0, 96 + 3 * 128);
        Check.same("rolls of the hour after it", mill.pass(1), 1);
        Check.same("paper of the hour after it", mill.paper(), 4800);
    }

    private static void hoursOfPaper() {
        PaperMachine mill = Mills.of(83);
        mill.setWidth(607);
        mill.order(0, 150, 9);
        mill.change(0);
        mill.pass(1);
        // 83 * 607 / 10 = 5038, of which 100 is lost.
        sums(mill, "the change", 5038, 5138, 0, 100);
        Check.same("rolls of an hour", mill.pass(1), 4);
        // The trim is 7: 5038 * 7 / 607 = 58 of broke; 5138 * 20 / 100 = 1027 is fed.
        sums(mill, "an hour of paper", 5038 - 1027 + 58, 5138 + 4111, 4980, 200);
        Check.same("rolls of two more", mill.pass(2), 5);
        // The last hour cuts one roll, and its trim is 457: 5038 * 457 / 607 = 3793.
        sums(mill, "three hours of paper", 5038 - 3 * 1027 + 58 + 58 + 3793,
                5138 + 3 * 4111, 2 * 4980 + 1245, 400);
    }

    private static void massIsRoundedDown() {
        PaperMachine mill = Mills.of(43);
        mill.setWidth(203);
        mill.change(0);
        mill.pass(1);
        // 43 * 203 = 8729: the mass is 872, the loss 17, the steam 436.
        sums(mill, "rounded down", 872, 889, 0, 17);
        Check.same("steamCost of 436", mill.steamCost(), 1308);
    }

    private static void brokeIsFedByTheShare() {
        PaperMachine mill = Mills.of(100);
        mill.order(0, 200, 50);
        mill.change(0);
        mill.setShare(0);
        mill.pass(1);
        sums(mill, "the change", 6000, 6120, 0, 120);
        mill.pass(1);
        sums(mill, "a share of 0", 6000, 12240, 6000, 240);
        mill.setShare(50);
        mill.pass(1);
        sums(mill, "a share of 50", 2940, 15300, 12000, 360);
        mill.setShare(33);
        mill.pass(1);
        // 6120 * 33 / 100 = 2019.6
        sums(mill, "a share of 33", 2940 - 2019, 15300 + 6120 - 2019, 18000, 480);
        mill.pass(1);
        sums(mill, "less there than the share", 0, 15300 + 6120 - 2019 + 6120 - 921, 24000, 600);
        mill.pass(1);
        sums(mill, "nothing there", 0, 15300 + 6120 - 2019 + 6120 - 921 + 6120, 30000, 720);
    }

    private static void brokeIsFedWhole() {
        PaperMachine mill = Mills.of(40, 200);
        mill.setWidth(200);
        mill.order(1, 150, 9);
        mill.change(0);
        mill.pass(1);
        sums(mill, "a light change", 800, 816, 0, 16);
        mill.setShare(50);
        mill.change(1);
        mill.pass(1);
        // What the hour itself makes is not yet there to be fed: of 2040, only 800 is.
        sums(mill, "a heavy change", 4000, 816 + 4080 - 800, 0, 96);
        mill.pass(1);
        sums(mill, "its second hour", 4000 + 4000 - 2040, 4096 + 2040, 0, 176);
    }

    private static void steam() {
        PaperMachine mill = Mills.of(100);
        mill.setContract(3000, 7, 11);
        mill.change(0);
        mill.pass(1);
        Check.same("steam of 3000 at a limit of 3000", mill.steamCost(), 21000);
        mill.order(0, 300, 50);
        mill.setContract(2999, 7, 11);
        mill.pass(1);
        Check.same("steam of 3000 at a limit of 2999", mill.steamCost(), 21000 + 20993 + 11);
        mill.setContract(0, 7, 11);
        mill.pass(1);
        Check.same("steam of 3000 at a limit of 0", mill.steamCost(), 42004 + 33000);
        mill.setContract(3001, 7, 11);
        mill.pass(1);
        Check.same("steam of 3000 at a limit of 3001", mill.steamCost(), 75004 + 21000);
        mill.setContract(9999, 0, 99);
        mill.pass(2);
        Check.same("steam at the price 0", mill.steamCost(), 96004);
    }

    private static void steamByNewContracts() {
        PaperMachine mill = Mills.of(200);
        mill.setWidth(799);
        mill.change(0);
        mill.pass(1);
        // 200 * 799 / 10 = 15980, half of it is 7990.
        long due = 2000 * 3 + 5990 * 5;
        Check.same("the first hour", mill.steamCost(), due);
        mill.setContract(1, 99, 98);
        Check.same("a new contract alone", mill.steamCost(), due);
        mill.order(0, 400, 3);
        mill.pass(3);
        due += 3 * (99 + 7989 * 98);
        Check.same("three hours of it", mill.steamCost(), due);
        Check.same("an hour that does nothing", mill.pass(1), 0);
        Check.same("its cost", mill.steamCost(), due);
    }

    private static void made() {
        PaperMachine mill = Mills.of(80, 130);
        mill.order(1, 200, 4);
        mill.pass(1);
        mill.change(0);
        mill.pass(2);
        mill.change(1);
        mill.pass(5);
        String due = "ncnccppn";
        for (int i = 0; i < due.length(); i++) {
            Check.same("made(" + i + ")", mill.made(i), due.charAt(i));
        }
        Check.refused("made(8)", INDEX, () -> mill.made(8));
        Check.refused("made(-1)", INDEX, () -> mill.made(-1));
        Check.refused("made(greatest int)", INDEX, () -> mill.made(Integer.MAX_VALUE));
    }

    private static void figures() {
        PaperMachine mill = Mills.of(100);
        mill.pass(3);
        Check.refused("paperShare of nothing", ARITHMETIC, mill::paperShare);
        Check.refused("meanTrim of nothing", ARITHMETIC, mill::meanTrim);
        mill.change(0);
        mill.pass(1);
        Check.same("paperShare of a change", mill.paperShare(), 0.0f);
        Check.refused("meanTrim of a change", ARITHMETIC, mill::meanTrim);
        mill.order(0, 200, 4);
        mill.pass(1);
        Check.same("paperShare of one hour of two", mill.paperShare(), 0.5f);
        Check.same("meanTrim of a full hour", mill.meanTrim(), 0.0);
        mill.pass(1);
        Check.same("paperShare of 8000 in 18000", mill.paperShare(), 8000f / 18000f);
        Check.same("meanTrim of 0 and 400", mill.meanTrim(), 200.0);
        mill.order(0, 300, 1);
        mill.pass(4);
        Check.same("paperShare of 11000 in 24000", mill.paperShare(), 11000f / 24000f);
        Check.same("meanTrim of 0, 400 and 300", mill.meanTrim(), 700.0 / 3.0);
    }
}
