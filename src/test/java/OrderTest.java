/** Calls with more than one thing wrong: the exception that is told first is the one thrown. */
public final class OrderTest {
    private static final Check CHECK = new Check();

    public static void main(String[] args) {
        CHECK.says("Terms", "(Of several exceptions that a call might throw, it throws the one that is told first.)");
        purposeAndKind();
        consent();
        contract();
        duty();
        put();
        derive();
        event();
        hold();
        lift();
        use();
        CHECK.end();
    }

    /** Purposes 0 and 1, kind 0, item 0 of person 1 that lives and item 1 of person 2 that does not. */
    private static ConsentRegister register() {
        ConsentRegister x = new ConsentRegister();
        x.purpose(0);
        x.kind(10);
        x.put(1, 0, 5, 3);
        x.put(2, 0, 6, 3);
        x.erase(2, 0);
        return x;
    }

    private static void argument(String what, Check.Call call) {
        CHECK.refuses(what, Check.ARGUMENT, call);
    }

    private static void missing(String what, Check.Call call) {
        CHECK.refuses(what, Check.MISSING, call);
    }

    private static void state(String what, Check.Call call) {
        CHECK.refuses(what, Check.STATE, call);
    }

    private static void purposeAndKind() {
        ConsentRegister x = register();
        for (int i = 2; i < 16; i++) {
            x.purpose(0);
        }
        for (int i = 1; i < 8; i++) {
            x.kind(1);
        }
        state("full", () -> x.purpose(15));
        argument("full, no such parent", () -> x.purpose(16));
        argument("full, no such parent", () -> x.purpose(-1));
        state("full", () -> x.kind(5000));
        argument("full, no such retention", () -> x.kind(5001));
        argument("full, no such retention", () -> x.kind(0));
    }

    private static void consent() {
        ConsentRegister x = register();
        for (int i = 0; i < 100; i++) {
            x.consent(0, 0, true, 0);
        }
        state("full", () -> x.consent(15, 1, true, 10_000_000));
        argument("full, no such person", () -> x.consent(16, 1, true, 0));
        argument("full, no such purpose", () -> x.consent(15, 2, true, 0));
        argument("full, no such minute", () -> x.consent(15, 1, true, 10_000_001));
        argument("full, nothing right", () -> x.consent(-1, -1, false, -1));
    }

    private static void contract() {
        ConsentRegister x = register();
        for (int i = 0; i < 40; i++) {
            x.contract(0, 0, 0, 0);
        }
        state("full", () -> x.contract(15, 1, 0, 10_000_000));
        argument("full, no such person", () -> x.contract(16, 1, 0, 0));
        argument("full, no such purpose", () -> x.contract(15, 2, 0, 0));
        argument("full, no such from", () -> x.contract(15, 1, -1, 0));
        argument("full, no such to", () -> x.contract(15, 1, 0, 10_000_001));
        argument("full, from later than to", () -> x.contract(15, 1, 1, 0));
    }

    private static void duty() {
        ConsentRegister x = register();
        for (int i = 0; i < 20; i++) {
            x.duty(0, 0, 1);
        }
        state("full", () -> x.duty(0, 1, 5000));
        argument("full, no such kind", () -> x.duty(1, 1, 1));
        argument("full, no such purpose", () -> x.duty(0, 2, 1));
        argument("full, too many days", () -> x.duty(0, 1, 5001));
        argument("full, too few days", () -> x.duty(0, 1, 0));
    }

    private static void put() {
        ConsentRegister x = register();
        for (int i = 2; i < 100; i++) {
            x.put(0, 0, 1, 0);
        }
        state("full", () -> x.put(15, 0, 1, 6944));
        argument("full, no such person", () -> x.put(16, 0, 1, 0));
        argument("full, no such kind", () -> x.put(15, 1, 1, 0));
        argument("full, no such day", () -> x.put(15, 0, 1, 6945));
        argument("full, no such day", () -> x.put(15, 0, 1, -1));
    }

    private static void derive() {
        ConsentRegister x = register();
        argument("no way, an input does not live", () -> x.derive(3, 1, 0));
        argument("no way, one number twice", () -> x.derive(-1, 0, 0));
        argument("one number twice, it does not live", () -> x.derive(1, 1, 1));
        argument("one number twice, it never was", () -> x.derive(2, 50, 50));
        for (int i = 2; i < 100; i++) {
            x.put(0, 0, 1, 0);
        }
        state("full", () -> x.derive(0, 0, 1));
        state("full", () -> x.derive(1, 0, 2));
        missing("full, the input does not live", () -> x.derive(0, 1, 0));
        missing("full, the first does not live", () -> x.derive(1, 1, 0));
        missing("full, the second does not live", () -> x.derive(2, 0, 1));
        argument("full, no way", () -> x.derive(3, 0, 2));
        argument("full, no way, an input does not live", () -> x.derive(3, 1, 0));
        argument("full, one number twice", () -> x.derive(1, 0, 0));
        argument("full, one number twice, it does not live", () -> x.derive(2, 1, 1));
    }

    private static void event() {
        ConsentRegister x = register();
        for (int i = 0; i < 60; i++) {
            x.event(0, 0, 0);
        }
        state("full", () -> x.event(15, 0, 6944));
        argument("full, no such person", () -> x.event(16, 0, 0));
        argument("full, no such kind", () -> x.event(15, 1, 0));
        argument("full, no such day", () -> x.event(15, 0, 6945));
        argument("full, no such day", () -> x.event(15, 0, -1));
    }

    private static void hold() {
        ConsentRegister x = register();
        for (int i = 0; i < 30; i++) {
            x.hold(0, 0, 0);
        }
        state("full", () -> x.hold(15, 1, 6944));
        state("full", () -> x.hold(100, 1, 6944));
        argument("full, no such person", () -> x.hold(16, 1, 0));
        argument("full, no such kind", () -> x.hold(101, 1, 0));
        argument("full, no such purpose", () -> x.hold(15, 2, 0));
        argument("full, no such day", () -> x.hold(15, 1, 6945));
        argument("full, no such day", () -> x.hold(15, 1, -1));
    }

    private static void lift() {
        ConsentRegister x = register();
        x.hold(0, 0, 5);
        x.lift(0, 8);
        state("lifted", () -> x.lift(0, 5));
        state("lifted", () -> x.lift(0, 6944));
        argument("lifted, before its first day", () -> x.lift(0, 4));
        argument("lifted, above the last day", () -> x.lift(0, 6945));
        argument("no such hold, no such day", () -> x.lift(1, -1));
    }

    private static void use() {
        ConsentRegister x = register();
        state("no ground", () -> x.use(0, 1, 0));
        missing("it does not live, and there is no ground", () -> x.use(1, 1, 0));
        missing("it never was, and there is no ground", () -> x.use(2, 1, 0));
        argument("no such purpose, it does not live", () -> x.use(1, 2, 0));
        argument("no such minute, it does not live", () -> x.use(1, 0, -1));
        argument("no such purpose, no ground", () -> x.use(0, 2, 0));
        argument("no such minute, no ground", () -> x.use(0, 0, 10_000_001));
    }
}
