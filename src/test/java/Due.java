import java.util.function.LongSupplier;

/** Counts the answers that are not as due, prints each, and ends the test with exit code 1 if there was one. */
final class Due {
    private int asked = 0;
    private int wrong = 0;
    private String sentence = "";

    /** The document's sentence that the answers asked for from here on belong to. */
    void sentence(String text) {
        sentence = "\"" + text + "\": ";
    }

    void same(String call, long got, long want) {
        asked++;
        if (got != want) {
            tell(call + " answered " + got + ", due is " + want);
        }
    }

    void text(String call, String got, String want) {
        asked++;
        if (!got.equals(want)) {
            tell(call + " answered " + got + ", due is " + want);
        }
    }

    void yes(String call, boolean got) {
        same(call, got ? 1 : 0, 1);
    }

    void no(String call, boolean got) {
        same(call, got ? 1 : 0, 0);
    }

    void none(String call, long got) {
        same(call, got, KilogramRows.NONE);
    }

    void noNumber(String call, long got) {
        same(call, got, Long.MIN_VALUE);
    }

    void fraction(String call, KilogramRows x, int number, long upper, long lower) {
        if (number < 0) {
            asked++;
            tell(call + " has no value");
            return;
        }
        same(call + ", upper", x.part(number, 0), upper);
        same(call + ", lower", x.part(number, 1), lower);
    }

    void arithmetic(String call, LongSupplier run) {
        thrown(call, ArithmeticException.class, run);
    }

    void outOfBounds(String call, LongSupplier run) {
        thrown(call, IndexOutOfBoundsException.class, run);
    }

    // The very class, since the machine's own exceptions on arrays are classes below the due one.
    private void thrown(String call, Class<? extends RuntimeException> due, LongSupplier run) {
        asked++;
        try {
            long got = run.getAsLong();
            tell(call + " answered " + got + ", due is " + due.getSimpleName());
        } catch (RuntimeException e) {
            if (e.getClass() != due) {
                tell(call + " threw " + e + ", due is " + due.getSimpleName());
            }
        }
    }

    private void tell(String text) {
        wrong++;
        if (wrong <= 50) {
            System.out.println(sentence + text);
        }
    }

    void end() {
        System.out.println(asked + " answers asked for, " + wrong + " not as due");
        if (wrong != 0) {
            System.exit(1);
        }
    }
}
