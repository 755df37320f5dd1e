/** Mills with a past, for the tests. */
final class Mills {
    private Mills() {
    }

    static PaperMachine of(int... weights) {
        PaperMachine mill = new PaperMachine();
        for (int weight : weights) {
            mill.addGrade(weight);
        }
        return mill;
    }

    /** A mill of this width that has changed to its grade 0, in its first hour. */
    static PaperMachine running(int width, int... weights) {
        PaperMachine mill = of(weights);
        mill.setWidth(width);
        goOver(mill, 0);
        return mill;
    }

    /** A mill with the greatest number of grades: 40, 72, 104, 136, 168 and 200. */
    static PaperMachine withAllGrades() {
        return of(40, 72, 104, 136, 168, 200);
    }

    /** Takes orders of grade 0, of one width and number, until the book is full. */
    static void fillWithOrders(PaperMachine mill, int width, int rolls) {
        for (int i = 0; i < 10; i++) {
            mill.order(0, width, rolls);
        }
    }

    /** Changes to a grade and lets the hours of the change pass. */
    static void goOver(PaperMachine mill, int grade) {
        mill.pass(mill.change(grade));
    }

    /** Lets more hours pass than one call can. */
    static void passMany(PaperMachine mill, int hours) {
        for (int left = hours; left > 0; left -= 48) {
            mill.pass(Math.min(left, 48));
        }
    }
}
