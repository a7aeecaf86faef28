import java.util.Random;
import java.util.function.LongSupplier;

/** Runs of 512 chosen calls, each answer or exception compared with the model's; the seeds are written down. */
public final class ModelTest {
    private static final int RUNS = 1500;
    private static final int CALLS = 512;
    private static final long[] LONG_EDGES = {0, 1, -1, 2, -2, 999999999L, 1000000000L, -1000000000L, 1000000001L,
        -1000000001L, Long.MIN_VALUE, Long.MIN_VALUE + 1, Long.MAX_VALUE, 1L << 62, 1L << 32, 1000000000000L,
        1000000000001L};
    private static final int[] INT_EDGES = {-1, -2, 20, 300, Integer.MAX_VALUE, Integer.MIN_VALUE};

    private final Due due;
    private final Random random;
    private final String run;
    private KilogramRows x;
    private Model model;
    /** How many values or rows there may be at most, so that most numbers asked for are there. */
    private int made = 1;

    private ModelTest(Due due, int seed) {
        this.due = due;
        this.random = new Random(seed);
        this.run = "run " + seed + ": ";
    }

    public static void main(String[] args) {
        Due due = new Due();
        for (int seed = 0; seed < RUNS; seed++) {
            new ModelTest(due, seed).go();
        }
        due.end();
    }

    private void go() {
        int kinds = random.nextInt(20) - 1;
        x = new KilogramRows(kinds);
        model = new Model(kinds);
        // Each run leans on some calls, so that systems, rows and values each get long runs of their own.
        int lean = random.nextInt(4);
        for (int i = 0; i < CALLS; i++) {
            int chosen = random.nextInt(3) == 0 ? random.nextInt(4) : lean;
            if (chosen == 0) {
                valueCall(i);
            } else if (chosen == 1) {
                rowCall(i);
            } else if (chosen == 2) {
                systemCall(i);
            } else {
                shareCall(i);
            }
        }
    }

    private int small(int bound) {
        return random.nextInt(25) == 0 ? INT_EDGES[random.nextInt(INT_EDGES.length)] : random.nextInt(bound);
    }

    private int number() {
        return small(made + 1);
    }

    private long wide() {
        int way = random.nextInt(6);
        if (way == 0) {
            return LONG_EDGES[random.nextInt(LONG_EDGES.length)];
        }
        if (way == 1) {
            return random.nextLong() >> random.nextInt(40);
        }
        return random.nextInt(way == 2 ? 2000000 : 41) - 20;
    }

    private long unit() {
        return random.nextInt(4) == 0 ? wide() : 1 + random.nextInt(12);
    }

    private void valueCall(int i) {
        int a = number();
        int b = number();
        int part = small(2);
        int rule = small(4);
        long above = wide();
        long below = wide();
        long unit = unit();
        int digit = small(11);
        switch (random.nextInt(10)) {
            case 0, 1 -> made(same(i, "value " + above + " " + below, () -> x.value(above, below),
                () -> model.value(above, below)));
            case 2 -> same(i, "part " + a + " " + part, () -> x.part(a, part), () -> model.part(a, part));
            case 3 -> made(same(i, "add " + a + " " + b, () -> x.add(a, b), () -> model.add(a, b)));
            case 4 -> made(same(i, "less " + a + " " + b, () -> x.less(a, b), () -> model.less(a, b)));
            case 5 -> made(same(i, "times " + a + " " + b, () -> x.times(a, b), () -> model.times(a, b)));
            case 6 -> made(same(i, "over " + a + " " + b, () -> x.over(a, b), () -> model.over(a, b)));
            case 7 -> same(i, "order " + a + " " + b, () -> x.order(a, b), () -> model.order(a, b));
            case 8 -> same(i, "round " + a + " " + rule + " " + unit, () -> x.round(a, rule, unit),
                () -> model.round(a, rule, unit));
            default -> same(i, "digit " + a + " " + part + " " + digit, () -> x.digit(a, part, digit),
                () -> model.digit(a, part, digit));
        }
    }

    private void rowCall(int i) {
        int row = small(4);
        int kind = small(16);
        int v = number();
        switch (random.nextInt(10)) {
            case 0 -> same(i, "row", () -> x.row(), () -> model.row());
            case 1, 2 -> same(i, "at " + row + " " + kind, () -> x.at(row, kind), () -> model.at(row, kind));
            case 3 -> made(same(i, "sum " + row, () -> x.sum(row), () -> model.sum(row)));
            default -> same(i, "put " + row + " " + kind + " " + v, () -> x.put(row, kind, v) ? 1 : 0,
                () -> model.put(row, kind, v) ? 1 : 0);
        }
    }

    private void systemCall(int i) {
        int row = small(4);
        int column = small(5);
        int size = 1 + small(4);
        int part = small(2);
        int way = random.nextInt(3);
        int v = way == 0 ? random.nextInt(203) - 101 : way == 1 ? random.nextInt(3) - 1 : 0;
        switch (random.nextInt(6)) {
            case 0 -> same(i, "solve " + size, () -> x.solve(size), () -> model.solve(size));
            case 1, 2 -> same(i, "answer " + row + " " + part, () -> x.answer(row, part),
                () -> model.answer(row, part));
            default -> same(i, "entry " + row + " " + column + " " + v, () -> x.entry(row, column, v) ? 1 : 0,
                () -> model.entry(row, column, v) ? 1 : 0);
        }
    }

    private void shareCall(int i) {
        int k = small(12);
        long whole = random.nextInt(3) == 0 ? Math.abs(random.nextLong() % 1000000000001L) : wide();
        int w = random.nextInt(3) == 0 ? random.nextInt(1000003) - 1 : random.nextInt(6);
        if (random.nextInt(12) == 0) {
            same(i, "weight " + w, () -> x.weight(w), () -> model.weight(w));
        } else {
            same(i, "share " + whole + " " + k, () -> x.share(whole, k), () -> model.share(whole, k));
        }
    }

    private void made(long number) {
        if (number >= made && number < 300) {
            made = (int) number + 1;
        }
    }

    private long same(int i, String call, LongSupplier got, LongSupplier want) {
        long answer;
        String name = run + "call " + i + " " + call;
        try {
            answer = want.getAsLong();
        } catch (ArithmeticException e) {
            due.arithmetic(name, got);
            return -1;
        } catch (IndexOutOfBoundsException e) {
            due.outOfBounds(name, got);
            return -1;
        }
        try {
            due.same(name, got.getAsLong(), answer);
        } catch (RuntimeException e) {
            due.yes(name + " threw " + e + ", due is " + answer, false);
        }
        return answer;
    }
}
