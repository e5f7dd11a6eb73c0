/** Promises 12, 13 and 17: use with its grounds, why and the log. */
public final class UseTest {
    private static final Check CHECK = new Check();
    private static final int DAY = 1440;

    public static void main(String[] args) {
        promise12Refusals();
        promise12Consent();
        promise12NearestConsent();
        promise12LatestConsent();
        promise12ConsentOfEachPerson();
        promise12Contract();
        promise12Duty();
        promise12Hold();
        promise12FirstGround();
        promise13Why();
        promise17Logged();
        promise17FullLog();
        CHECK.end();
    }

    /** Purposes 0 / 1 / 2 in a chain and 3 below the root; kinds 0 and 1; items 0 (person 1) and 1 (person 2) of kind 0, day 10. */
    private static ConsentRegister register() {
        ConsentRegister x = new ConsentRegister();
        x.purpose(0);
        x.purpose(1);
        x.purpose(0);
        x.kind(10);
        x.kind(10);
        x.put(1, 0, 11, 10);
        x.put(2, 0, 22, 10);
        return x;
    }

    private static void ground(ConsentRegister x, int item, int purpose, int minute, int want) {
        String what = "use(" + item + ", " + purpose + ", " + minute + ")";
        if (want == 0) {
            CHECK.refuses(what, Check.STATE, () -> x.use(item, purpose, minute));
        } else {
            CHECK.same(what, x.use(item, purpose, minute), x.peek(item));
        }
        CHECK.same("the ground of " + what, x.why(), want);
    }

    private static void promise12Refusals() {
        ConsentRegister x = register();
        x.consent(1, 0, true, 0);
        for (int purpose : new int[] {-1, 4, 16, Integer.MIN_VALUE, Integer.MAX_VALUE}) {
            CHECK.refuses("use for " + purpose, Check.ARGUMENT, () -> x.use(0, purpose, 0));
            CHECK.refuses("use of none for " + purpose, Check.ARGUMENT, () -> x.use(9, purpose, 0));
        }
        for (int minute : new int[] {-1, 10_000_001, Integer.MIN_VALUE, Integer.MAX_VALUE}) {
            CHECK.refuses("use at " + minute, Check.ARGUMENT, () -> x.use(0, 0, minute));
            CHECK.refuses("use of none at " + minute, Check.ARGUMENT, () -> x.use(9, 0, minute));
        }
        for (int item : new int[] {-1, 2, 100, Integer.MIN_VALUE, Integer.MAX_VALUE}) {
            CHECK.refuses("use of " + item, Check.MISSING, () -> x.use(item, 0, 0));
        }
        x.erase(2, 0);
        CHECK.refuses("use of an erased one", Check.MISSING, () -> x.use(1, 0, 0));
        CHECK.same("none of these is logged", x.state(4), 0);
        CHECK.same("nor has a ground", x.why(), -1);
        ground(x, 0, 0, 0, 1);
        ground(x, 0, 0, 10_000_000, 1);
    }

    private static void promise12Consent() {
        ConsentRegister x = register();
        ground(x, 0, 1, 500, 0);
        x.consent(1, 1, true, 500);
        ground(x, 0, 1, 499, 0);
        ground(x, 0, 1, 500, 1);
        ground(x, 0, 2, 501, 1);
        ground(x, 0, 0, 501, 0);
        ground(x, 0, 3, 501, 0);
        ground(x, 1, 1, 501, 0);
    }

    private static void promise12NearestConsent() {
        ConsentRegister x = register();
        x.consent(1, 0, true, 100);
        x.consent(1, 2, false, 50);
        ground(x, 0, 2, 200, 0);
        ground(x, 0, 1, 200, 1);
        x.consent(1, 1, false, 20);
        ground(x, 0, 1, 200, 0);
        x.consent(1, 2, true, 60);
        ground(x, 0, 2, 200, 1);
        ground(x, 0, 2, 55, 0);
        // Before any entry at the nearest purposes, a farther one counts.
        ConsentRegister y = register();
        y.consent(1, 0, true, 10);
        y.consent(1, 2, false, 300);
        ground(y, 0, 2, 299, 1);
        ground(y, 0, 2, 300, 0);
    }

    private static void promise12LatestConsent() {
        ConsentRegister x = register();
        x.consent(1, 0, true, 100);
        x.consent(1, 0, false, 50);
        ground(x, 0, 0, 100, 1);
        ground(x, 0, 0, 99, 0);
        x.consent(1, 0, false, 100);
        ground(x, 0, 0, 100, 0);
        x.consent(1, 0, true, 100);
        ground(x, 0, 0, 100, 1);
        x.consent(1, 0, false, 99);
        ground(x, 0, 0, 100, 1);
    }

    private static void promise12ConsentOfEachPerson() {
        ConsentRegister x = register();
        x.derive(1, 0, 1);
        x.consent(1, 0, true, 0);
        ground(x, 2, 0, 0, 0);
        x.consent(2, 3, true, 0);
        ground(x, 2, 0, 0, 0);
        ground(x, 2, 3, 0, 1);
        x.consent(2, 0, true, 0);
        ground(x, 2, 0, 0, 1);
        x.consent(1, 2, false, 0);
        ground(x, 2, 2, 0, 0);
        // A person of an erased input still has a word in it.
        x.erase(1, 0);
        ground(x, 2, 2, 0, 0);
        ground(x, 2, 0, 0, 1);
    }

    private static void promise12Contract() {
        ConsentRegister x = register();
        x.derive(1, 0, 1);
        x.contract(2, 1, 100, 200);
        ground(x, 1, 1, 99, 0);
        ground(x, 1, 1, 100, 2);
        ground(x, 1, 2, 200, 2);
        ground(x, 1, 1, 201, 0);
        ground(x, 1, 0, 150, 0);
        ground(x, 1, 3, 150, 0);
        ground(x, 0, 1, 150, 0);
        ground(x, 2, 1, 150, 2);
        x.contract(2, 0, 201, 201);
        ground(x, 1, 3, 201, 2);
        ground(x, 1, 3, 202, 0);
    }

    private static void promise12Duty() {
        ConsentRegister x = register();
        x.put(1, 1, 33, 10);
        x.duty(0, 1, 5);
        ground(x, 0, 1, 10 * DAY - 1, 0);
        ground(x, 0, 1, 10 * DAY, 3);
        ground(x, 0, 1, 15 * DAY - 1, 3);
        ground(x, 0, 1, 15 * DAY, 0);
        ground(x, 0, 0, 12 * DAY, 0);
        ground(x, 0, 2, 12 * DAY, 0);
        ground(x, 2, 1, 12 * DAY, 0);
        x.derive(1, 0, 2);
        ground(x, 3, 1, 12 * DAY, 3);
        x.derive(1, 2, 0);
        ground(x, 4, 1, 12 * DAY, 0);
    }

    private static void promise12Hold() {
        ConsentRegister x = register();
        x.consent(1, 0, true, 0);
        x.contract(1, 0, 0, 10_000_000);
        x.duty(0, 1, 100);
        x.hold(100, 3, 0);
        ground(x, 0, 1, 20 * DAY, 1);
        ground(x, 0, 3, 20 * DAY, 1);
        ground(x, 1, 1, 20 * DAY, 3);
        ground(x, 1, 3, 20 * DAY, 4);
        ground(x, 1, 2, 20 * DAY, 0);
        // Of a person: only 4 counts, by a hold of a kind, too.
        x.hold(1, 2, 20);
        ground(x, 0, 1, 20 * DAY - 1, 1);
        ground(x, 0, 1, 20 * DAY, 0);
        ground(x, 0, 0, 20 * DAY, 0);
        ground(x, 0, 2, 20 * DAY, 4);
        ground(x, 0, 3, 20 * DAY, 4);
        ground(x, 1, 1, 20 * DAY, 3);
        x.derive(1, 1, 0);
        x.consent(2, 0, true, 0);
        ground(x, 2, 1, 20 * DAY, 0);
        ground(x, 2, 1, 20 * DAY - 1, 1);
        x.lift(1, 30);
        ground(x, 0, 1, 30 * DAY - 1, 0);
        ground(x, 0, 1, 30 * DAY, 1);
        ConsentRegister y = register();
        y.consent(1, 0, true, 0);
        y.hold(1, 2, 0);
        ground(y, 0, 0, 0, 0);
    }

    private static void promise12FirstGround() {
        ConsentRegister x = register();
        int minute = 10 * DAY;
        x.hold(100, 1, 0);
        ground(x, 0, 1, minute, 4);
        x.duty(0, 1, 1);
        ground(x, 0, 1, minute, 3);
        x.contract(1, 1, minute, minute);
        ground(x, 0, 1, minute, 2);
        x.consent(1, 1, true, minute);
        ground(x, 0, 1, minute, 1);
        x.consent(1, 1, false, minute);
        ground(x, 0, 1, minute, 2);
        ground(x, 0, 1, minute + 1, 3);
        ground(x, 0, 1, minute + DAY, 4);
    }

    private static void promise13Why() {
        ConsentRegister x = register();
        CHECK.same("before any", x.why(), -1);
        CHECK.refuses("no purpose", Check.ARGUMENT, () -> x.use(0, 9, 0));
        CHECK.same("before any that counts", x.why(), -1);
        x.contract(1, 0, 0, 5);
        ground(x, 0, 0, 5, 2);
        CHECK.same("asked again", x.why(), 2);
        CHECK.refuses("no item", Check.MISSING, () -> x.use(9, 0, 0));
        CHECK.refuses("no minute", Check.ARGUMENT, () -> x.use(0, 0, -1));
        CHECK.same("of the one before", x.why(), 2);
        ground(x, 0, 0, 6, 0);
    }

    private static void promise17Logged() {
        ConsentRegister x = register();
        x.consent(2, 1, true, 0);
        x.use(1, 2, 77);
        CHECK.refuses("no ground", Check.STATE, () -> x.use(0, 3, 10_000_000));
        long[][] want = {{1, 2, 77, 1}, {0, 3, 10_000_000, 0}};
        for (int i = 0; i < 2; i++) {
            for (int what = 0; what < 4; what++) {
                CHECK.same("logged(" + i + ", " + what + ")", x.logged(i, what), want[i][what]);
            }
        }
        for (int what : new int[] {-1, 4, Integer.MIN_VALUE, Integer.MAX_VALUE}) {
            CHECK.same("logged(0, " + what + ")", x.logged(0, what), -1);
        }
        for (int i : new int[] {-1, 2, 199, 200, Integer.MIN_VALUE, Integer.MAX_VALUE}) {
            CHECK.same("logged(" + i + ", 0)", x.logged(i, 0), -1);
        }
        x.erase(2, 0);
        CHECK.same("the log outlives the item", x.logged(0, 0), 1);
        CHECK.same("uses logged", x.state(4), 2);
    }

    private static void promise17FullLog() {
        ConsentRegister x = register();
        x.consent(1, 0, true, 200);
        for (int i = 0; i < 200; i++) {
            CHECK.same("uses logged", x.state(4), i);
            int minute = i;
            CHECK.refuses("no consent yet", Check.STATE, () -> x.use(0, 0, minute));
        }
        CHECK.same("uses logged", x.state(4), 200);
        CHECK.same("the last one", x.logged(199, 2), 199);
        ground(x, 0, 0, 200, 1);
        CHECK.same("one more is not logged", x.state(4), 200);
        CHECK.same("nor to be found", x.logged(200, 2), -1);
        CHECK.same("nor in the place of another one", x.logged(199, 2), 199);
        ground(x, 1, 0, 200, 0);
    }
}
