import java.util.NoSuchElementException;
import java.util.function.LongSupplier;

/** Collects the calls whose answers are not the ones that are due. */
final class Due {
    /** A call with one of its arguments left open. */
    interface Asked {
        long with(int argument);
    }

    private int wrong = 0;
    private int asked = 0;

    void is(String call, long want, LongSupplier asking) {
        same(call, outcome(asking), Long.toString(want));
    }

    void same(String call, String got, String want) {
        asked++;
        if (!got.equals(want)) {
            tell(call, got, want);
        }
    }

    void runs(String call, Runnable asking) {
        is(call, 0, counted(asking));
    }

    void illegal(String call, Runnable asking) {
        fails(call, "throws.IllegalArgumentException", asking);
    }

    void badState(String call, Runnable asking) {
        fails(call, "throws.IllegalStateException", asking);
    }

    void noElement(String call, Runnable asking) {
        fails(call, "throws.NoSuchElementException", asking);
    }

    /** Swaps until nothing is carried; the number of entries carried is due, and nothing after them. */
    void swaps(ForestTablets x, int carried) {
        for (int i = 0; i < carried; i++) {
            is("swap() " + (i + 1) + " of " + carried, 1, () -> x.swap() ? 1 : 0);
        }
        is("swap() with nothing left", 0, () -> x.swap() ? 1 : 0);
    }

    /** A whole meeting, that ends by part(). */
    void meeting(ForestTablets x, int a, int b, int carried) {
        runs("meet(" + a + ", " + b + ")", () -> x.meet(a, b));
        swaps(x, carried);
        runs("part()", x::part);
    }

    /**
     * All that lies from the least to the greatest answers what is due; what lies beside, up to the least and the
     * greatest int, is refused.
     */
    void bounds(String call, int least, int greatest, Asked want, Asked asking) {
        for (int i = least; i <= greatest; i++) {
            int good = i;
            is(call + " with " + good, want.with(good), () -> asking.with(good));
        }
        for (int bad : beside(least, greatest)) {
            illegal(call + " with " + bad, () -> asking.with(bad));
        }
    }

    /** The same for an argument that may be anything from 0 on. */
    void from0(String call, Asked want, Asked asking) {
        for (int good : new int[] {0, 1, 2, 3, 4, 5, 72, 256, 65536, 1 << 30, Integer.MAX_VALUE}) {
            is(call + " with " + good, want.with(good), () -> asking.with(good));
        }
        for (int bad : new int[] {-1, -2, -256, -65536, -(1 << 30), Integer.MIN_VALUE + 1, Integer.MIN_VALUE}) {
            illegal(call + " with " + bad, () -> asking.with(bad));
        }
    }

    /** The neighbours, the ends of int, and what has the low bits of a good value or wraps around to one. */
    static int[] beside(int least, int greatest) {
        return new int[] {Integer.MIN_VALUE, Integer.MIN_VALUE + least, -(1 << 30), -65536, -256, least - 1,
            greatest + 1, least + 4096, least + 65536, least + (1 << 28), least + (1 << 30),
            Integer.MAX_VALUE - 1, Integer.MAX_VALUE};
    }

    void end() {
        System.out.println(asked + " answers looked at, " + wrong + " not as due");
        if (wrong != 0) {
            System.exit(1);
        }
    }

    static String outcome(LongSupplier asking) {
        try {
            return Long.toString(asking.getAsLong());
        } catch (IllegalArgumentException | IllegalStateException | NoSuchElementException e) {
            return "throws." + e.getClass().getSimpleName();
        } catch (RuntimeException e) {
            return "throws by itself " + e;
        }
    }

    static LongSupplier counted(Runnable asking) {
        return () -> {
            asking.run();
            return 0;
        };
    }

    private void fails(String call, String want, Runnable asking) {
        same(call, outcome(counted(asking)), want);
    }

    void tell(String call, String got, String want) {
        wrong++;
        System.out.println(call + " answered " + got + ", due is " + want);
    }
}
