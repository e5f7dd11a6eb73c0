/** Promises 4, 5, 6 and 9: the entries of consent, contract, duty and event, and what they refuse. */
public final class EntriesTest {
    private static final Check CHECK = new Check();
    private static final int LOW = Integer.MIN_VALUE;
    private static final int HIGH = Integer.MAX_VALUE;
    private static final int[] NO_PERSONS = {-1, 16, 32, LOW, HIGH};
    private static final int[] NO_PURPOSES = {-1, 2, 16, LOW, HIGH};
    private static final int[] NO_KINDS = {-1, 1, 8, 100, LOW, HIGH};
    private static final int[] NO_MINUTES = {-1, 10_000_001, LOW, HIGH};
    private static final int[] NO_DAYS = {-1, 6945, LOW, HIGH};
    private static final int[] NO_LENGTHS = {-1, 0, 5001, LOW, HIGH};

    public static void main(String[] args) {
        promise4HowMany();
        promise4Minutes();
        promise4NoSuchPersonOrPurpose();
        promise4ThereAre100();
        promise5HowMany();
        promise5AsForConsent();
        promise5BothMinutes();
        promise5FromLaterThanTo();
        promise5ThereAre40();
        promise6HowMany();
        promise6NoSuchKindOrPurpose();
        promise6DaysTooFewOrTooMany();
        promise6ThereAre20();
        promise9HowMany();
        promise9AsForPut();
        promise9ThereAre60();
        CHECK.end();
    }

    /** One purpose below the root, and one kind. */
    private static ConsentRegister register() {
        ConsentRegister x = new ConsentRegister();
        x.purpose(0);
        x.kind(10);
        return x;
    }

    private static void promise4HowMany() {
        CHECK.says("Promise 4", "An entry: how many there are.");
        ConsentRegister x = register();
        CHECK.same("the first", x.consent(0, 0, true, 0), 1);
        CHECK.same("of another person", x.consent(15, 1, false, 0), 2);
        CHECK.same("the same again", x.consent(15, 1, false, 0), 3);
    }

    private static void promise4Minutes() {
        CHECK.says("Promise 4", "Minutes are 0 to 10,000,000.");
        ConsentRegister x = register();
        CHECK.same("the first minute", x.consent(0, 0, true, 0), 1);
        CHECK.same("the last minute", x.consent(0, 0, true, 10_000_000), 2);
        CHECK.says("Promise 4", "or the minute is not so");
        for (int minute : NO_MINUTES) {
            CHECK.refuses("consent at " + minute, Check.ARGUMENT, () -> x.consent(0, 0, true, minute));
        }
        CHECK.same("none of these is counted", x.consent(0, 0, true, 1), 3);
    }

    private static void promise4NoSuchPersonOrPurpose() {
        CHECK.says("Promise 4", "there is no such person or purpose");
        ConsentRegister x = register();
        for (int person : NO_PERSONS) {
            CHECK.refuses("consent of person " + person, Check.ARGUMENT, () -> x.consent(person, 0, true, 0));
        }
        for (int purpose : NO_PURPOSES) {
            CHECK.refuses("consent for " + purpose, Check.ARGUMENT, () -> x.consent(0, purpose, true, 0));
        }
        CHECK.same("the last ones that are", x.consent(15, 1, true, 0), 1);
    }

    private static void promise4ThereAre100() {
        CHECK.says("Promise 4", "IllegalStateException: there are 100.");
        ConsentRegister x = register();
        for (int i = 1; i <= 100; i++) {
            CHECK.same("consent " + i, x.consent(i % 16, i % 2, i % 3 == 0, i), i);
        }
        CHECK.refuses("a 101st", Check.STATE, () -> x.consent(0, 0, true, 0));
        CHECK.refuses("a 102nd", Check.STATE, () -> x.consent(1, 1, false, 10_000_000));
    }

    private static void promise5HowMany() {
        CHECK.says("Promise 5", "A span: how many there are.");
        ConsentRegister x = register();
        CHECK.same("the first", x.contract(0, 0, 0, 1), 1);
        CHECK.same("of another person", x.contract(15, 1, 5, 9), 2);
        CHECK.same("the same again", x.contract(15, 1, 5, 9), 3);
    }

    private static void promise5AsForConsent() {
        CHECK.says("Promise 5", "IllegalArgumentException: as for consent()");
        ConsentRegister x = register();
        for (int person : NO_PERSONS) {
            CHECK.refuses("contract of person " + person, Check.ARGUMENT, () -> x.contract(person, 0, 0, 1));
        }
        for (int purpose : NO_PURPOSES) {
            CHECK.refuses("contract for " + purpose, Check.ARGUMENT, () -> x.contract(0, purpose, 0, 1));
        }
        CHECK.same("the last ones that are", x.contract(15, 1, 0, 1), 1);
    }

    private static void promise5BothMinutes() {
        CHECK.says("Promise 5", "for both minutes");
        ConsentRegister x = register();
        for (int minute : NO_MINUTES) {
            CHECK.refuses("from " + minute, Check.ARGUMENT, () -> x.contract(0, 0, minute, 10_000_000));
            CHECK.refuses("to " + minute, Check.ARGUMENT, () -> x.contract(0, 0, 0, minute));
            CHECK.refuses("from and to " + minute, Check.ARGUMENT, () -> x.contract(0, 0, minute, minute));
        }
        CHECK.same("the longest span", x.contract(0, 0, 0, 10_000_000), 1);
    }

    private static void promise5FromLaterThanTo() {
        CHECK.says("Promise 5", "or from is later than to");
        ConsentRegister x = register();
        CHECK.refuses("from 5 to 4", Check.ARGUMENT, () -> x.contract(0, 0, 5, 4));
        CHECK.refuses("from the last to the first", Check.ARGUMENT, () -> x.contract(0, 0, 10_000_000, 0));
        CHECK.same("from 5 to 5", x.contract(0, 0, 5, 5), 1);
        CHECK.same("the first minute alone", x.contract(0, 0, 0, 0), 2);
        CHECK.same("the last minute alone", x.contract(0, 0, 10_000_000, 10_000_000), 3);
    }

    private static void promise5ThereAre40() {
        CHECK.says("Promise 5", "IllegalStateException: there are 40.");
        ConsentRegister x = register();
        for (int i = 1; i <= 40; i++) {
            CHECK.same("contract " + i, x.contract(i % 16, i % 2, i, 2 * i), i);
        }
        CHECK.refuses("a 41st", Check.STATE, () -> x.contract(0, 0, 0, 1));
        CHECK.refuses("a 42nd", Check.STATE, () -> x.contract(1, 1, 7, 7));
    }

    private static void promise6HowMany() {
        CHECK.says("Promise 6", "A duty: how many there are.");
        ConsentRegister x = register();
        x.kind(1);
        CHECK.same("the first", x.duty(0, 0, 3), 1);
        CHECK.same("of another kind", x.duty(1, 1, 4), 2);
        CHECK.same("the same again", x.duty(1, 1, 4), 3);
    }

    private static void promise6NoSuchKindOrPurpose() {
        CHECK.says("Promise 6", "there is no such kind or purpose");
        ConsentRegister x = register();
        for (int kind : NO_KINDS) {
            CHECK.refuses("duty of kind " + kind, Check.ARGUMENT, () -> x.duty(kind, 0, 1));
        }
        for (int purpose : NO_PURPOSES) {
            CHECK.refuses("duty for " + purpose, Check.ARGUMENT, () -> x.duty(0, purpose, 1));
        }
        CHECK.same("the last ones that are", x.duty(0, 1, 1), 1);
    }

    private static void promise6DaysTooFewOrTooMany() {
        CHECK.says("Promise 6", "or the days are not 1 .. 5,000");
        ConsentRegister x = register();
        for (int days : NO_LENGTHS) {
            CHECK.refuses("duty of " + days + " days", Check.ARGUMENT, () -> x.duty(0, 0, days));
        }
        CHECK.same("the least", x.duty(0, 0, 1), 1);
        CHECK.same("the most", x.duty(0, 0, 5000), 2);
    }

    private static void promise6ThereAre20() {
        CHECK.says("Promise 6", "IllegalStateException: there are 20.");
        ConsentRegister x = register();
        for (int i = 1; i <= 20; i++) {
            CHECK.same("duty " + i, x.duty(0, i % 2, i), i);
        }
        CHECK.refuses("a 21st", Check.STATE, () -> x.duty(0, 0, 1));
        CHECK.refuses("a 22nd", Check.STATE, () -> x.duty(0, 1, 5000));
    }

    private static void promise9HowMany() {
        CHECK.says("Promise 9", "An event of a person and kind on a day: how many there are.");
        ConsentRegister x = register();
        x.kind(1);
        CHECK.same("the first", x.event(0, 0, 3), 1);
        CHECK.same("of another person and kind", x.event(15, 1, 2), 2);
        CHECK.same("the same again", x.event(15, 1, 2), 3);
    }

    private static void promise9AsForPut() {
        CHECK.says("Promise 9", "IllegalArgumentException: as for put().");
        ConsentRegister x = register();
        for (int person : NO_PERSONS) {
            CHECK.refuses("event of person " + person, Check.ARGUMENT, () -> x.event(person, 0, 0));
        }
        for (int kind : NO_KINDS) {
            CHECK.refuses("event of kind " + kind, Check.ARGUMENT, () -> x.event(0, kind, 0));
        }
        for (int day : NO_DAYS) {
            CHECK.refuses("event on day " + day, Check.ARGUMENT, () -> x.event(0, 0, day));
        }
        CHECK.same("the first day", x.event(0, 0, 0), 1);
        CHECK.same("the last day of the last person", x.event(15, 0, 6944), 2);
    }

    private static void promise9ThereAre60() {
        CHECK.says("Promise 9", "IllegalStateException: there are 60.");
        ConsentRegister x = register();
        for (int i = 1; i <= 60; i++) {
            CHECK.same("event " + i, x.event(i % 16, 0, i), i);
        }
        CHECK.refuses("a 61st", Check.STATE, () -> x.event(0, 0, 0));
        CHECK.refuses("a 62nd", Check.STATE, () -> x.event(15, 0, 6944));
    }
}
