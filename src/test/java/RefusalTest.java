import java.util.ArrayList;
import java.util.List;

/** A call that is refused changes nothing, in a register with a little of each and in one that is full. */
public final class RefusalTest {
    private static final Check CHECK = new Check();
    private static final int LOW = Integer.MIN_VALUE;
    private static final int HIGH = Integer.MAX_VALUE;

    record Refused(String what, Class<? extends RuntimeException> why, Replay.Step call) { }

    public static void main(String[] args) {
        everyRefusal("a little of each", little(), wrongCalls());
        everyRefusal("full", full(), wrongCalls());
        everyRefusal("full", full(), callsWithoutRoom());
        useWithoutGroundIsOnlyLogged();
        CHECK.end();
    }

    /** Items 0 to 9; 3, 5 and 8 are erased. Purposes 0 to 3, kinds 0 and 1, holds 0 (lifted) and 1. */
    private static Replay little() {
        return new Replay()
                .then(x -> x.purpose(0)).then(x -> x.purpose(1)).then(x -> x.purpose(0))
                .then(x -> x.kind(10)).then(x -> x.kind(20))
                .then(x -> x.consent(1, 1, true, 0)).then(x -> x.consent(2, 0, true, 7200)).then(x -> x.consent(1, 2, false, 1440))
                .then(x -> x.contract(2, 3, 0, 1440)).then(x -> x.duty(1, 2, 5))
                .then(x -> x.put(1, 0, 11, 0)).then(x -> x.put(2, 1, 22, 5)).then(x -> x.put(3, 1, 33, 6))
                .then(x -> x.put(4, 0, 44, 0)).then(x -> x.derive(1, 0, 1)).then(x -> x.derive(0, 3, 0))
                .then(x -> x.derive(2, 1, 0)).then(x -> x.derive(1, 4, 3)).then(x -> x.derive(2, 7, 3))
                .then(x -> x.put(5, 1, 55, 5))
                .then(x -> x.event(1, 0, 3)).then(x -> x.event(3, 1, 6))
                .then(x -> x.hold(2, 1, 5)).then(x -> x.hold(101, 3, 6)).then(x -> x.lift(0, 10))
                .then(x -> x.erase(4, 0))
                .then(x -> x.use(0, 1, 100)).then(x -> x.use(0, 2, 1440)).then(x -> x.use(1, 3, 9));
    }

    /** The same, with every table filled up as far as nothing else comes of it. */
    private static Replay full() {
        Replay run = little();
        for (int i = 4; i < 16; i++) {
            run.then(x -> x.purpose(0));
        }
        for (int i = 2; i < 8; i++) {
            run.then(x -> x.kind(1));
        }
        for (int i = 3; i < 100; i++) {
            run.then(x -> x.consent(15, 15, false, 0));
        }
        for (int i = 1; i < 40; i++) {
            run.then(x -> x.contract(15, 15, 0, 0));
        }
        for (int i = 1; i < 20; i++) {
            run.then(x -> x.duty(7, 15, 1));
        }
        for (int i = 10; i < 100; i++) {
            run.then(x -> x.put(14, 6, 1, 9));
        }
        for (int i = 2; i < 60; i++) {
            run.then(x -> x.event(15, 7, 1));
        }
        for (int i = 2; i < 30; i++) {
            run.then(x -> x.hold(13, 15, 6944));
        }
        return run;
    }

    private static List<Refused> wrongCalls() {
        List<Refused> all = new ArrayList<>();
        for (int none : new int[] {-1, 16, LOW, HIGH}) {
            add(all, "purpose", x -> x.purpose(none));
            add(all, "consent, person", x -> x.consent(none, 0, true, 0));
            add(all, "consent, purpose", x -> x.consent(1, none, false, 0));
            add(all, "contract, person", x -> x.contract(none, 0, 0, 10_000_000));
            add(all, "contract, purpose", x -> x.contract(1, none, 0, 10_000_000));
            add(all, "duty, kind", x -> x.duty(none, 0, 5000));
            add(all, "duty, purpose", x -> x.duty(0, none, 5000));
            add(all, "put, person", x -> x.put(none, 0, 1, 0));
            add(all, "put, kind", x -> x.put(1, none, 1, 0));
            add(all, "event, person", x -> x.event(none, 0, 6944));
            add(all, "event, kind", x -> x.event(1, none, 6944));
            add(all, "hold, person", x -> x.hold(none, 0, 0));
            add(all, "hold, purpose", x -> x.hold(1, none, 0));
            add(all, "use, purpose", x -> x.use(0, none, 100));
            add(all, "erase, person", x -> x.erase(none, 0));
        }
        for (int minute : new int[] {-1, 10_000_001, LOW, HIGH}) {
            add(all, "consent, minute", x -> x.consent(1, 0, false, minute));
            add(all, "contract, from", x -> x.contract(1, 0, minute, 10_000_000));
            add(all, "contract, to", x -> x.contract(1, 0, 0, minute));
            add(all, "use, minute", x -> x.use(0, 1, minute));
            add(all, "erase, minute", x -> x.erase(1, minute));
        }
        for (int day : new int[] {-1, 6945, LOW, HIGH}) {
            add(all, "put, day", x -> x.put(1, 0, 1, day));
            add(all, "event, day", x -> x.event(1, 0, day));
            add(all, "hold, day", x -> x.hold(1, 0, day));
            add(all, "lift, day", x -> x.lift(1, day));
            add(all, "sweep", x -> x.sweep(day));
        }
        for (int days : new int[] {-1, 0, 5001, LOW, HIGH}) {
            add(all, "kind", x -> x.kind(days));
            add(all, "duty, days", x -> x.duty(0, 0, days));
        }
        add(all, "contract, from later than to", x -> x.contract(1, 0, 1, 0));
        add(all, "hold, kind", x -> x.hold(108, 0, 0));
        add(all, "hold, between persons and kinds", x -> x.hold(99, 0, 0));
        add(all, "lift, no such hold", x -> x.lift(30, 6944));
        add(all, "lift, before its first day", x -> x.lift(1, 5));
        add(all, "derive, no way", x -> x.derive(3, 0, 1));
        add(all, "derive, one number twice", x -> x.derive(1, 0, 0));
        all.add(new Refused("lift, it was lifted", Check.STATE, x -> x.lift(0, 6944)));
        for (int item : new int[] {3, 5, 8, -1, 100, LOW, HIGH}) {
            all.add(new Refused("use of " + item, Check.MISSING, x -> x.use(item, 1, 100)));
            all.add(new Refused("copy of " + item, Check.MISSING, x -> x.derive(0, item, 0)));
            all.add(new Refused("sum with " + item, Check.MISSING, x -> x.derive(1, 0, item)));
            all.add(new Refused("flag with " + item, Check.MISSING, x -> x.derive(2, item, 0)));
        }
        return all;
    }

    private static void add(List<Refused> all, String what, Replay.Step call) {
        all.add(new Refused(what, Check.ARGUMENT, call));
    }

    private static List<Refused> callsWithoutRoom() {
        List<Replay.Step> calls = List.of(
                x -> x.purpose(0), x -> x.kind(7), x -> x.consent(1, 0, false, 10_000_000), x -> x.contract(1, 0, 0, 10_000_000),
                x -> x.duty(0, 0, 5000), x -> x.put(1, 0, 1, 0), x -> x.derive(0, 0, 0), x -> x.derive(1, 0, 1),
                x -> x.derive(2, 0, 1), x -> x.event(1, 0, 6944), x -> x.hold(1, 0, 0), x -> x.hold(100, 0, 0));
        List<Refused> all = new ArrayList<>();
        for (int i = 0; i < calls.size(); i++) {
            all.add(new Refused("no room, call " + i, Check.STATE, calls.get(i)));
        }
        return all;
    }

    private static void everyRefusal(String where, Replay run, List<Refused> calls) {
        CHECK.says("Not promised", "Nothing is promised beyond the answers and state changes described above");
        List<String> uses = run.seenOfUses();
        List<String> rest = run.seenOfTheRest();
        for (Refused refused : calls) {
            ConsentRegister x = run.made();
            CHECK.refuses(where + ": " + refused.what, refused.why, () -> refused.call.on(x));
            Replay longer = run.and(refused.call);
            CHECK.that(where + ": " + refused.what + " changed the log", longer.seenOfUses().equals(uses));
            CHECK.that(where + ": " + refused.what + " changed something", longer.seenOfTheRest().equals(rest));
        }
    }

    private static void useWithoutGroundIsOnlyLogged() {
        CHECK.says("Promise 12", "A use, also one without a ground, is logged");
        Replay run = little();
        Replay longer = run.and(x -> x.use(9, 0, 5));
        CHECK.that("the log has one more", !longer.seenOfUses().equals(run.seenOfUses()));
        CHECK.that("nothing else has changed", longer.seenOfTheRest().equals(run.seenOfTheRest()));
    }
}
