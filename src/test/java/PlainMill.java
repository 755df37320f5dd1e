import java.util.ArrayList;
import java.util.List;
import java.util.NoSuchElementException;

/** The document's mill once more, as plainly as can be and without any of the program's ways. */
final class PlainMill {
    record Hour(char kind, int mass, int trim, int fed, int brokeMade, int limit, int first, int second) {
    }

    private static final class Order {
        int grade;
        int width;
        int lacks;
        int cut;
    }

    private final List<Integer> weights = new ArrayList<>();
    private final List<Order> orders = new ArrayList<>();
    private final List<Hour> hours = new ArrayList<>();
    private Integer current = null;
    private boolean up = true;
    private int toGo = 0;
    private int width = 600;
    private int share = 20;
    private int[] contract = {2000, 3, 5};

    private void needGrade(int grade) {
        if (grade < 0 || grade >= weights.size()) {
            throw new IndexOutOfBoundsException();
        }
    }

    private Order needOrder(int order) {
        if (order < 0 || order >= orders.size()) {
            throw new IndexOutOfBoundsException();
        }
        return orders.get(order);
    }

    private static void needRange(int number, int least, int most) {
        if (number < least || number > most) {
            throw new IllegalArgumentException();
        }
    }

    int addGrade(int weight) {
        needRange(weight, 40, 200);
        if (weights.contains(weight)) {
            throw new IllegalArgumentException();
        }
        if (weights.size() == 6) {
            throw new IllegalStateException();
        }
        weights.add(weight);
        return weights.size() - 1;
    }

    int setWidth(int newWidth) {
        needRange(newWidth, 200, 800);
        if (orders.stream().anyMatch(o -> o.lacks > 0 && o.width > newWidth)) {
            throw new IllegalStateException();
        }
        int before = width;
        width = newWidth;
        return before;
    }

    int change(int grade) {
        needGrade(grade);
        if (current != null && current == grade) {
            throw new IllegalArgumentException();
        }
        if (toGo > 0) {
            throw new IllegalStateException();
        }
        toGo = 1;
        if (current != null) {
            int from = weights.get(current);
            int to = weights.get(grade);
            up = to > from;
            for (int by = 40; by <= Math.abs(to - from); by += 40) {
                toGo++;
            }
        }
        current = grade;
        return toGo;
    }

    int grade() {
        if (current == null) {
            throw new NoSuchElementException();
        }
        return current;
    }

    int changing() {
        return toGo;
    }

    int next() {
        int[] above = {-1, Integer.MAX_VALUE};
        int[] below = {-1, Integer.MIN_VALUE};
        int at = current == null ? 0 : weights.get(current);
        for (Order o : orders) {
            int weight = weights.get(o.grade);
            if (o.lacks > 0 && weight > at && weight < above[1]) {
                above = new int[] {o.grade, weight};
            }
            if (o.lacks > 0 && weight < at && weight > below[1]) {
                below = new int[] {o.grade, weight};
            }
        }
        int found = up || current == null ? above[0] : below[0];
        if (found < 0) {
            found = up ? below[0] : above[0];
        }
        if (found < 0) {
            throw new NoSuchElementException();
        }
        return found;
    }

    int mass(int grade) {
        needGrade(grade);
        return weights.get(grade) * width / 10;
    }

    int order(int grade, int orderWidth, int rolls) {
        needGrade(grade);
        needRange(orderWidth, 20, 400);
        needRange(rolls, 1, 50);
        if (orderWidth > width) {
            throw new UnsupportedOperationException();
        }
        if (orders.size() == 10) {
            throw new IllegalStateException();
        }
        Order o = new Order();
        o.grade = grade;
        o.width = orderWidth;
        o.lacks = rolls;
        orders.add(o);
        return orders.size() - 1;
    }

    int cancel(int order) {
        Order o = needOrder(order);
        if (o.lacks == 0) {
            throw new IllegalStateException();
        }
        int lacked = o.lacks;
        o.lacks = 0;
        return lacked;
    }

    int cut(int order) {
        return needOrder(order).cut;
    }

    int lacks(int order) {
        return needOrder(order).lacks;
    }

    int trim(int grade) {
        needGrade(grade);
        return width - widthOf(bestCut(grade));
    }

    int inCut(int order) {
        Order o = needOrder(order);
        return bestCut(o.grade)[order];
    }

    int leastHours(int grade) {
        needGrade(grade);
        long sum = orders.stream().filter(o -> o.grade == grade).mapToLong(o -> (long) o.lacks * o.width).sum();
        long number = orders.stream().filter(o -> o.grade == grade).mapToLong(o -> o.lacks).sum();
        return (int) Math.max(Math.ceil((double) sum / width), Math.ceil(number / 6.0));
    }

    int setShare(int percent) {
        needRange(percent, 0, 50);
        int before = share;
        share = percent;
        return before;
    }

    int setContract(int limit, int first, int second) {
        needRange(limit, 0, 9999);
        needRange(first, 0, 99);
        needRange(second, 0, 99);
        int before = contract[0];
        contract = new int[] {limit, first, second};
        return before;
    }

    int pass(int number) {
        needRange(number, 1, 48);
        if (hours.size() + number > 400) {
            throw new IllegalStateException();
        }
        int rolls = 0;
        for (int i = 0; i < number; i++) {
            rolls += hour();
        }
        return rolls;
    }

    int hours() {
        return hours.size();
    }

    int broke() {
        return hours.stream().mapToInt(h -> h.brokeMade - h.fed).sum();
    }

    long fresh() {
        return hours.stream().mapToLong(h -> h.mass + h.mass / 50 - h.fed).sum();
    }

    long paper() {
        return hours.stream().mapToLong(h -> h.mass - h.brokeMade).sum();
    }

    long lost() {
        return hours.stream().mapToLong(h -> h.mass / 50).sum();
    }

    char made(int hour) {
        if (hour < 0 || hour >= hours.size()) {
            throw new IndexOutOfBoundsException();
        }
        return hours.get(hour).kind;
    }

    long steamCost() {
        long cost = 0;
        for (Hour h : hours) {
            int steam = h.mass / 2;
            cost += steam <= h.limit ? (long) steam * h.first
                    : (long) h.limit * h.first + (long) (steam - h.limit) * h.second;
        }
        return cost;
    }

    float paperShare() {
        long all = hours.stream().mapToLong(h -> h.mass).sum();
        if (all == 0) {
            throw new ArithmeticException();
        }
        return (float) paper() / (float) all;
    }

    double meanTrim() {
        long number = hours.stream().filter(h -> h.kind == 'p').count();
        if (number == 0) {
            throw new ArithmeticException();
        }
        return (double) hours.stream().filter(h -> h.kind == 'p').mapToLong(h -> h.trim).sum() / (double) number;
    }

    private int hour() {
        if (current == null) {
            hours.add(new Hour('n', 0, 0, 0, 0, 0, 0, 0));
            return 0;
        }
        int mass = mass(current);
        int fed = Math.min(broke(), (mass + mass / 50) * share / 100);
        if (toGo > 0) {
            toGo--;
            hours.add(new Hour('c', mass, 0, fed, mass, contract[0], contract[1], contract[2]));
            return 0;
        }
        int[] best = bestCut(current);
        int rolls = best[10];
        if (rolls == 0) {
            hours.add(new Hour('n', 0, 0, 0, 0, 0, 0, 0));
            return 0;
        }
        int trim = width - widthOf(best);
        hours.add(new Hour('p', mass, trim, fed, mass * trim / width, contract[0], contract[1], contract[2]));
        for (int i = 0; i < orders.size(); i++) {
            orders.get(i).lacks -= best[i];
            orders.get(i).cut += best[i];
        }
        return rolls;
    }

    private int widthOf(int[] cut) {
        int sum = 0;
        for (int i = 0; i < orders.size(); i++) {
            sum += cut[i] * orders.get(i).width;
        }
        return sum;
    }

    /**
     * Goes through all cuts there are, and compares each with the best one so far as the terms say;
     * the place behind those of the 10 orders counts the rolls.
     */
    private int[] bestCut(int grade) {
        int[] best = new int[11];
        List<int[]> all = new ArrayList<>();
        all.add(new int[11]);
        for (int i = 0; i < orders.size(); i++) {
            Order o = orders.get(i);
            int size = all.size();
            for (int k = 0; o.grade == grade && k < size; k++) {
                int[] cut = all.get(k);
                for (int n = 1; n <= o.lacks && cut[10] + n <= 6; n++) {
                    int[] more = cut.clone();
                    more[i] = n;
                    more[10] += n;
                    all.add(more);
                }
            }
        }
        for (int[] cut : all) {
            int sum = widthOf(cut);
            if (sum <= width && (sum > widthOf(best) || sum == widthOf(best) && isFirst(cut, best))) {
                best = cut;
            }
        }
        return best;
    }

    private static boolean isFirst(int[] cut, int[] other) {
        for (int i = 0; i < 10; i++) {
            if (cut[i] != other[i]) {
                return cut[i] > other[i];
            }
        }
        return false;
    }
}
