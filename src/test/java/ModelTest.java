import java.util.Random;
import java.util.function.LongSupplier;

/** Runs of 512 calls, always the same ones, whose answers are compared with the model's. */
public final class ModelTest {
    private static final int RUNS = 400;
    private static final int CALLS = 512;

    private final Random random;
    private final ForestTablets x = new ForestTablets();
    private final Model model = new Model();
    private final int run;
    /** Few places make conflicts, many make whole trees. */
    private final int plots;
    private final int trees;
    /** In some runs one device enters most, and comes to its fortieth entry. */
    private final int busy;
    private int wrong = 0;
    private int calls = 0;

    private ModelTest(int run) {
        this.run = run;
        this.random = new Random(run);
        this.plots = 1 + random.nextInt(6);
        this.trees = 1 + random.nextInt(4);
        this.busy = random.nextInt(10) - 5;
    }

    public static void main(String[] args) {
        int wrong = 0;
        for (int run = 1; run <= RUNS; run++) {
            wrong += new ModelTest(run).goThrough();
        }
        System.out.println(RUNS + " runs of " + CALLS + " calls, " + wrong + " answers not as due");
        if (wrong != 0) {
            System.exit(1);
        }
    }

    private int goThrough() {
        while (calls < CALLS && wrong == 0) {
            int luck = random.nextInt(100);
            if (luck < 40) {
                change();
            } else if (luck < 46) {
                wholeMeeting(near(5), near(5));
            } else {
                ask();
            }
        }
        return wrong;
    }

    private void wholeMeeting(int a, int b) {
        same("meet " + a + " " + b, Due.counted(() -> x.meet(a, b)), Due.counted(() -> model.meet(a, b)));
        for (int i = random.nextInt(20); i >= 0; i--) {
            same("swap", () -> x.swap() ? 1 : 0, () -> model.swap() ? 1 : 0);
        }
        same("part", Due.counted(x::part), Due.counted(model::part));
    }

    private void change() {
        int d = busy >= 0 && random.nextInt(4) > 0 ? busy : near(5);
        int p = near(plots);
        int t = near(trees);
        int f = near(3);
        int v = someValue(f);
        int what = random.nextInt(100);
        if (what < (busy >= 0 ? 45 : 30)) {
            same("enter " + d + " " + p + " " + t + " " + f + " " + v,
                () -> x.enter(d, p, t, f, v), () -> model.enter(d, p, t, f, v));
        } else if (what < 48) {
            same("lend " + p + " " + d, () -> x.lend(p, d), () -> model.lend(p, d));
        } else if (what < 53) {
            same("giveBack " + d + " " + p, () -> x.giveBack(d, p), () -> model.giveBack(d, p));
        } else if (what < 60) {
            int i = random.nextInt(4) - 1;
            same("resolve " + i + " " + v, () -> x.resolve(i, v), () -> model.resolve(i, v));
        } else if (what < 68) {
            int b = near(5);
            same("meet " + d + " " + b, Due.counted(() -> x.meet(d, b)), Due.counted(() -> model.meet(d, b)));
        } else if (what < 85) {
            for (int i = random.nextInt(12); i >= 0; i--) {
                same("swap", () -> x.swap() ? 1 : 0, () -> model.swap() ? 1 : 0);
            }
        } else if (what < 90) {
            same("part", Due.counted(x::part), Due.counted(model::part));
        } else if (what < 94) {
            same("crash " + d, Due.counted(() -> x.crash(d)), Due.counted(() -> model.crash(d)));
        } else if (what < 97) {
            int s = near(3);
            same("stand " + p + " " + s, Due.counted(() -> x.stand(p, s)), Due.counted(() -> model.stand(p, s)));
        } else {
            int s = near(4);
            int factor = random.nextInt(104) - 1;
            int low = random.nextInt(60) - 1;
            int high = random.nextInt(20) == 0 ? 998 + random.nextInt(5) : random.nextInt(300);
            same("species " + s + " " + factor + " " + low + " " + high,
                Due.counted(() -> x.species(s, factor, low, high)),
                Due.counted(() -> model.species(s, factor, low, high)));
        }
    }

    private void ask() {
        int d = near(5);
        int p = near(plots);
        int t = near(trees);
        int f = near(3);
        int i = random.nextInt(6) - (random.nextInt(10) == 0 ? 1 : 0);
        int what = near(4);
        switch (random.nextInt(7)) {
            case 0:
                int other = near(5);
                same("known " + d + " " + other, () -> x.known(d, other), () -> model.known(d, other));
                break;
            case 1:
                int side = near(2);
                same("holder " + d + " " + p + " " + side,
                    () -> x.holder(d, p, side), () -> model.holder(d, p, side));
                break;
            case 2:
                same("value " + d + " " + p + " " + t + " " + f,
                    () -> x.value(d, p, t, f), () -> model.value(d, p, t, f));
                break;
            case 3:
                same("candidate " + d + " " + p + " " + t + " " + f + " " + i,
                    () -> x.candidate(d, p, t, f, i), () -> model.candidate(d, p, t, f, i));
                break;
            case 4:
                same("conflict " + d + " " + i, () -> x.conflict(d, i), () -> model.conflict(d, i));
                break;
            case 5:
                same("plot " + d + " " + p + " " + what, () -> x.plot(d, p, what), () -> model.plot(d, p, what));
                break;
            default:
                int s = near(3);
                same("total " + d + " " + s + " " + what, () -> x.total(d, s, what), () -> model.total(d, s, what));
        }
    }

    /** Mostly 0 .. count - 1, sometimes one beside. */
    private int near(int count) {
        int luck = random.nextInt(80);
        return luck == 0 ? -1 : luck == 1 ? count : random.nextInt(count);
    }

    private int someValue(int field) {
        switch (random.nextInt(12)) {
            case 0:
                return field == 0 ? 4 : 9;
            case 1:
                return field == 0 ? 3 : field == 1 ? 2000 : 600;
            case 2:
                return field == 0 ? -1 : field == 1 ? 2001 : 601;
            case 3:
                return field == 0 ? 0 : 10;
            default:
                return field == 0 ? random.nextInt(4) : 20 + random.nextInt(random.nextBoolean() ? 3 : 500);
        }
    }

    private void same(String call, LongSupplier asking, LongSupplier due) {
        calls++;
        if (calls > CALLS) {
            return;
        }
        String got = Due.outcome(asking);
        String want = Due.outcome(due);
        if (!got.equals(want)) {
            wrong++;
            System.out.println("run " + run + ", call " + calls + ": " + call + " answered " + got + ", due is " + want);
        }
    }
}
