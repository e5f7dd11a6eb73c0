/** Promises 4, 5, 6 and 9: the entries of consent, contract, duty and event, and what they refuse. */
public final class EntriesTest {
    private static final Check CHECK = new Check();
    private static final int[] NO_PERSONS = {-1, 16, 32, Integer.MIN_VALUE, Integer.MAX_VALUE};
    private static final int[] NO_PURPOSES = {-1, 2, 16, Integer.MIN_VALUE, Integer.MAX_VALUE};
    private static final int[] NO_KINDS = {-1, 1, 8, Integer.MIN_VALUE, Integer.MAX_VALUE};
    private static final int[] NO_MINUTES = {-1, 10_000_001, Integer.MIN_VALUE, Integer.MAX_VALUE};
    private static final int[] NO_DAYS = {-1, 6945, Integer.MIN_VALUE, Integer.MAX_VALUE};
    private static final int[] NO_LENGTHS = {-1, 0, 5001, Integer.MIN_VALUE, Integer.MAX_VALUE};

    public static void main(String[] args) {
        promise4Consent();
        promise5Contract();
        promise6Duty();
        promise9Event();
        CHECK.end();
    }

    /** One purpose below the root, and one kind. */
    private static ConsentRegister register() {
        ConsentRegister x = new ConsentRegister();
        x.purpose(0);
        x.kind(10);
        return x;
    }

    private static void promise4Consent() {
        ConsentRegister x = register();
        for (int person : NO_PERSONS) {
            CHECK.refuses("consent of person " + person, Check.ARGUMENT, () -> x.consent(person, 0, true, 0));
        }
        for (int purpose : NO_PURPOSES) {
            CHECK.refuses("consent for " + purpose, Check.ARGUMENT, () -> x.consent(0, purpose, true, 0));
        }
        for (int minute : NO_MINUTES) {
            CHECK.refuses("consent at " + minute, Check.ARGUMENT, () -> x.consent(0, 0, false, minute));
        }
        for (int i = 1; i <= 100; i++) {
            CHECK.same("consent " + i, x.consent(i % 16, i % 2, i % 3 == 0, i % 2 == 0 ? 0 : 10_000_000), i);
        }
        CHECK.refuses("a 101st consent", Check.STATE, () -> x.consent(0, 0, true, 0));
        CHECK.refuses("a 101st, wrong person", Check.ARGUMENT, () -> x.consent(16, 0, true, 0));
        CHECK.refuses("a 101st, wrong purpose", Check.ARGUMENT, () -> x.consent(0, 2, true, 0));
        CHECK.refuses("a 101st, wrong minute", Check.ARGUMENT, () -> x.consent(0, 0, true, -1));
    }

    private static void promise5Contract() {
        ConsentRegister x = register();
        for (int person : NO_PERSONS) {
            CHECK.refuses("contract of person " + person, Check.ARGUMENT, () -> x.contract(person, 0, 0, 1));
        }
        for (int purpose : NO_PURPOSES) {
            CHECK.refuses("contract for " + purpose, Check.ARGUMENT, () -> x.contract(0, purpose, 0, 1));
        }
        for (int minute : NO_MINUTES) {
            CHECK.refuses("contract from " + minute, Check.ARGUMENT, () -> x.contract(0, 0, minute, 10_000_000));
            CHECK.refuses("contract to " + minute, Check.ARGUMENT, () -> x.contract(0, 0, 0, minute));
        }
        CHECK.refuses("contract from 5 to 4", Check.ARGUMENT, () -> x.contract(0, 0, 5, 4));
        for (int i = 1; i <= 40; i++) {
            CHECK.same("contract " + i, i % 2 == 0 ? x.contract(15, 1, i, i) : x.contract(0, 0, 0, 10_000_000), i);
        }
        CHECK.refuses("a 41st contract", Check.STATE, () -> x.contract(0, 0, 0, 1));
        CHECK.refuses("a 41st, from later than to", Check.ARGUMENT, () -> x.contract(0, 0, 1, 0));
        CHECK.refuses("a 41st, wrong person", Check.ARGUMENT, () -> x.contract(-1, 0, 0, 1));
    }

    private static void promise6Duty() {
        ConsentRegister x = register();
        for (int kind : NO_KINDS) {
            CHECK.refuses("duty of kind " + kind, Check.ARGUMENT, () -> x.duty(kind, 0, 1));
        }
        for (int purpose : NO_PURPOSES) {
            CHECK.refuses("duty for " + purpose, Check.ARGUMENT, () -> x.duty(0, purpose, 1));
        }
        for (int days : NO_LENGTHS) {
            CHECK.refuses("duty of " + days + " days", Check.ARGUMENT, () -> x.duty(0, 0, days));
        }
        for (int i = 1; i <= 20; i++) {
            CHECK.same("duty " + i, x.duty(0, i % 2, i % 2 == 0 ? 1 : 5000), i);
        }
        CHECK.refuses("a 21st duty", Check.STATE, () -> x.duty(0, 0, 1));
        CHECK.refuses("a 21st of no kind", Check.ARGUMENT, () -> x.duty(1, 0, 1));
    }

    private static void promise9Event() {
        ConsentRegister x = register();
        for (int person : NO_PERSONS) {
            CHECK.refuses("event of person " + person, Check.ARGUMENT, () -> x.event(person, 0, 0));
        }
        for (int kind : NO_KINDS) {
            CHECK.refuses("event of kind " + kind, Check.ARGUMENT, () -> x.event(0, kind, 0));
        }
        for (int day : NO_DAYS) {
            CHECK.refuses("event on day " + day, Check.ARGUMENT, () -> x.event(0, 0, day));
        }
        for (int i = 1; i <= 60; i++) {
            CHECK.same("event " + i, x.event(i % 16, 0, i % 2 == 0 ? 0 : 6944), i);
        }
        CHECK.refuses("a 61st event", Check.STATE, () -> x.event(0, 0, 0));
        CHECK.refuses("a 61st on no day", Check.ARGUMENT, () -> x.event(0, 0, 6945));
    }
}
