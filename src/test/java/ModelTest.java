import java.util.Random;

/** Runs of 512 mixed calls, the same ones each time, on a register and on the model side by side. */
public final class ModelTest {
    private static final int RUNS = 2500;
    private static final int CALLS = 512;
    /** Every other run ends with so many looks at what the others made. */
    private static final int VIEWS = 150;
    private static final int FIRST_VIEW = 14;
    private static final int[] WILD = {
        Integer.MIN_VALUE, Integer.MIN_VALUE + 100, -1441, -2, -1, 0, 1, 15, 16, 17, 31, 32, 99, 100, 107, 108,
        199, 200, 4999, 5000, 5001, 6943, 6944, 6945, 9_999_999, 10_000_000, 10_000_001, Integer.MAX_VALUE};
    private static final String[] NAMES = {
        "purpose", "kind", "consent", "contract", "duty", "put", "derive", "event", "hold", "lift", "use", "why",
        "erase", "sweep", "held", "logged", "peek", "look", "state"};
    /** How often each call comes; erasing comes seldom, so that something is left to look at. */
    private static final int[] OFTEN = {3, 2, 12, 4, 2, 8, 14, 5, 3, 2, 30, 2, 2, 2, 5, 5, 8, 8, 2};

    interface Asked {
        long answer();
    }

    private final Check check = new Check();
    private Random random;
    /** Of how many persons and of how many days a run tells: few make many of them meet. */
    private int persons;
    private int days;
    private int wildOf;

    public static void main(String[] args) {
        ModelTest test = new ModelTest();
        for (int run = 0; run < RUNS && !test.check.failed(); run++) {
            test.run(run);
        }
        test.check.end();
    }

    private void run(int seed) {
        random = new Random(seed);
        persons = 1 + random.nextInt(seed % 3 == 0 ? 16 : 4);
        days = 1 + random.nextInt(seed % 5 == 0 ? 6944 : 40);
        wildOf = seed % 7 == 0 ? 3 : 60;
        int mixed = seed % 2 == 0 ? CALLS : CALLS - VIEWS;
        ConsentRegister x = new ConsentRegister();
        Model y = new Model();
        for (int i = 0; i < CALLS && !check.failed(); i++) {
            int name = i < 4 ? i % 2 : i < mixed ? choose() : chooseView();
            int[] a = arguments(name, y);
            String got = told(() -> call(x, name, a));
            String want = told(() -> call(y, name, a));
            String what = "run " + seed + ", call " + i + ": " + NAMES[name] + java.util.Arrays.toString(a);
            check.that(what + " answered " + got + ", due is " + want, got.equals(want));
        }
    }

    private static String told(Asked asked) {
        try {
            return Long.toString(asked.answer());
        } catch (RuntimeException e) {
            return "throws." + e.getClass().getSimpleName();
        }
    }

    private int choose() {
        int all = 0;
        for (int often : OFTEN) {
            all += often;
        }
        int at = random.nextInt(all);
        int name = 0;
        while (at >= OFTEN[name]) {
            at -= OFTEN[name];
            name++;
        }
        return name;
    }

    private int chooseView() {
        return FIRST_VIEW + random.nextInt(NAMES.length - FIRST_VIEW);
    }

    private int person() {
        return random.nextInt(persons);
    }

    private int day() {
        return random.nextInt(days);
    }

    private int minute() {
        return Math.min(10_000_000, day() * 1440 + random.nextInt(3) * 719 + random.nextInt(2));
    }

    private int below(int count) {
        return random.nextInt(Math.max(1, count));
    }

    /** Of the newest ones more often, for chains that are long. */
    private int item(Model y) {
        int count = y.state(2);
        return random.nextBoolean() ? below(count) : Math.max(0, count - 1 - below(6));
    }

    private int[] arguments(int name, Model y) {
        int purpose = below(y.state(0));
        int kind = below(y.state(1));
        int from = minute();
        int[] a;
        switch (NAMES[name]) {
            case "purpose": a = new int[] {purpose}; break;
            case "kind": a = new int[] {1 + random.nextInt(days)}; break;
            case "consent": a = new int[] {person(), purpose, random.nextInt(3), from}; break;
            case "contract": a = new int[] {person(), purpose, from, Math.min(10_000_000, from + random.nextInt(5000))}; break;
            case "duty": a = new int[] {kind, purpose, 1 + random.nextInt(Math.min(days, 9))}; break;
            case "put": a = new int[] {person(), kind, random.nextInt(9) == 0 ? random.nextInt() : random.nextInt(20), day()}; break;
            case "derive": a = new int[] {random.nextInt(3), item(y), item(y)}; break;
            case "event": a = new int[] {person(), kind, day()}; break;
            case "hold": a = new int[] {random.nextBoolean() ? person() : 100 + kind, purpose, day()}; break;
            case "lift": a = new int[] {below(y.state(5)), day()}; break;
            case "use": a = new int[] {item(y), purpose, from}; break;
            case "why": return new int[0];
            case "erase": a = new int[] {person(), from}; break;
            case "sweep": a = new int[] {day()}; break;
            case "held": a = new int[] {person(), random.nextInt(8)}; break;
            case "logged": a = new int[] {below(y.state(4) + 1), random.nextInt(4)}; break;
            case "peek": a = new int[] {item(y)}; break;
            case "look": a = new int[] {item(y), random.nextInt(5)}; break;
            default: a = new int[] {random.nextInt(7)}; break;
        }
        if (random.nextInt(wildOf) == 0) {
            a[random.nextInt(a.length)] = random.nextInt(4) == 0 ? random.nextInt() : WILD[random.nextInt(WILD.length)];
        }
        return a;
    }

    private static long call(ConsentRegister x, int name, int[] a) {
        switch (NAMES[name]) {
            case "purpose": return x.purpose(a[0]);
            case "kind": return x.kind(a[0]);
            case "consent": return x.consent(a[0], a[1], a[2] > 0, a[3]);
            case "contract": return x.contract(a[0], a[1], a[2], a[3]);
            case "duty": return x.duty(a[0], a[1], a[2]);
            case "put": return x.put(a[0], a[1], a[2], a[3]);
            case "derive": return x.derive(a[0], a[1], a[2]);
            case "event": return x.event(a[0], a[1], a[2]);
            case "hold": return x.hold(a[0], a[1], a[2]);
            case "lift": x.lift(a[0], a[1]); return 0;
            case "use": return x.use(a[0], a[1], a[2]);
            case "why": return x.why();
            case "erase": return x.erase(a[0], a[1]);
            case "sweep": return x.sweep(a[0]);
            case "held": return x.held(a[0], a[1]);
            case "logged": return x.logged(a[0], a[1]);
            case "peek": return x.peek(a[0]);
            case "look": return x.look(a[0], a[1]);
            default: return x.state(a[0]);
        }
    }

    private static long call(Model y, int name, int[] a) {
        switch (NAMES[name]) {
            case "purpose": return y.purpose(a[0]);
            case "kind": return y.kind(a[0]);
            case "consent": return y.consent(a[0], a[1], a[2] > 0, a[3]);
            case "contract": return y.contract(a[0], a[1], a[2], a[3]);
            case "duty": return y.duty(a[0], a[1], a[2]);
            case "put": return y.put(a[0], a[1], a[2], a[3]);
            case "derive": return y.derive(a[0], a[1], a[2]);
            case "event": return y.event(a[0], a[1], a[2]);
            case "hold": return y.hold(a[0], a[1], a[2]);
            case "lift": y.lift(a[0], a[1]); return 0;
            case "use": return y.use(a[0], a[1], a[2]);
            case "why": return y.why();
            case "erase": return y.erase(a[0], a[1]);
            case "sweep": return y.sweep(a[0]);
            case "held": return y.held(a[0], a[1]);
            case "logged": return y.logged(a[0], a[1]);
            case "peek": return y.peek(a[0]);
            case "look": return y.look(a[0], a[1]);
            default: return y.state(a[0]);
        }
    }
}
