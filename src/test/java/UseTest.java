/** Promises 12, 13 and 17: use, why and the log. */
public final class UseTest {
    private static final Check CHECK = new Check();
    private static final int DAY = 1440;
    private static final int LOW = Integer.MIN_VALUE;
    private static final int HIGH = Integer.MAX_VALUE;

    public static void main(String[] args) {
        promise12Value();
        promise12NoSuchPurpose();
        promise12Minutes();
        promise12ItemDoesNotLive();
        promise12NeitherIsLogged();
        promise12NoGround();
        promise12Logged();
        promise12FewerThan200();
        promise12FullOfUsesWithGrounds();
        promise13BeforeAny();
        promise13OneToFour();
        promise13None();
        promise13RefusedOnesDoNotCount();
        promise13CouldHaveBeenLogged();
        promise17Cells();
        promise17NoneSuch();
        promise17Others();
        logIsWithoutValues();
        promise17OutlivesTheItem();
        CHECK.end();
    }

    /** Purposes 0 to 3; kind 0; items 0 (person 1) and 1 (person 2), day 10: 11 and 22; person 1 says yes to all, from minute 100 on. */
    private static ConsentRegister register() {
        ConsentRegister x = new ConsentRegister();
        x.purpose(0);
        x.purpose(1);
        x.purpose(0);
        x.kind(10);
        x.put(1, 0, 11, 10);
        x.put(2, 0, 22, 10);
        x.consent(1, 0, true, 100);
        return x;
    }

    private static void promise12Value() {
        CHECK.says("Promise 12", "The value of an item, for a purpose at a minute.");
        ConsentRegister x = register();
        x.derive(1, 0, 1);
        x.consent(2, 0, true, 100);
        CHECK.same("of one that was put", x.use(0, 3, 100), 11);
        CHECK.same("of a derived one", x.use(2, 1, 10_000_000), 33);
        x.erase(2, 0);
        CHECK.same("it follows its inputs", x.use(2, 1, 10_000_000), 11);
    }

    private static void promise12NoSuchPurpose() {
        CHECK.says("Promise 12", "there is no such purpose");
        ConsentRegister x = register();
        for (int purpose : new int[] {-1, 4, 15, 16, LOW, HIGH}) {
            CHECK.refuses("use for " + purpose, Check.ARGUMENT, () -> x.use(0, purpose, 100));
        }
        CHECK.same("the last one that is", x.use(0, 3, 100), 11);
    }

    private static void promise12Minutes() {
        CHECK.says("Promise 12", "or the minute is not so");
        ConsentRegister x = register();
        x.consent(1, 0, true, 0);
        for (int minute : new int[] {-1, -1440, 10_000_001, LOW, HIGH}) {
            CHECK.refuses("use at " + minute, Check.ARGUMENT, () -> x.use(0, 0, minute));
        }
        CHECK.same("the first minute", x.use(0, 0, 0), 11);
        CHECK.same("the last minute", x.use(0, 0, 10_000_000), 11);
    }

    private static void promise12ItemDoesNotLive() {
        CHECK.says("Promise 12", "NoSuchElementException: the item does not live.");
        ConsentRegister x = register();
        x.derive(0, 1, 0);
        x.erase(2, 0);
        for (int item : new int[] {1, 2, 3, -1, 99, 100, LOW, HIGH}) {
            CHECK.refuses("use of " + item, Check.MISSING, () -> x.use(item, 0, 100));
        }
        CHECK.same("one that lives", x.use(0, 0, 100), 11);
    }

    private static void promise12NeitherIsLogged() {
        CHECK.says("Promise 12", "(Neither is logged.)");
        ConsentRegister x = register();
        CHECK.refuses("no purpose", Check.ARGUMENT, () -> x.use(0, 4, 100));
        CHECK.refuses("no minute", Check.ARGUMENT, () -> x.use(0, 0, 10_000_001));
        CHECK.refuses("no item", Check.MISSING, () -> x.use(2, 0, 100));
        CHECK.same("uses logged", x.state(4), 0);
        CHECK.same("nothing to be found", x.logged(0, 0), -1);
        x.use(0, 0, 100);
        CHECK.refuses("no purpose", Check.ARGUMENT, () -> x.use(0, -1, 100));
        CHECK.refuses("no item", Check.MISSING, () -> x.use(-1, 0, 100));
        CHECK.same("uses logged", x.state(4), 1);
        CHECK.same("nothing more to be found", x.logged(1, 0), -1);
    }

    private static void promise12NoGround() {
        CHECK.says("Promise 12", "IllegalStateException: there is no ground.");
        ConsentRegister x = register();
        CHECK.refuses("before the consent", Check.STATE, () -> x.use(0, 0, 99));
        CHECK.refuses("of another person", Check.STATE, () -> x.use(1, 0, 100));
        CHECK.same("with a ground", x.use(0, 0, 100), 11);
    }

    private static void promise12Logged() {
        CHECK.says("Promise 12", "A use, also one without a ground, is logged");
        ConsentRegister x = register();
        x.use(0, 0, 100);
        CHECK.same("with a ground", x.state(4), 1);
        CHECK.refuses("without one", Check.STATE, () -> x.use(1, 2, 100));
        CHECK.same("without a ground", x.state(4), 2);
        CHECK.same("its item", x.logged(1, 0), 1);
        CHECK.same("its ground", x.logged(1, 3), 0);
        x.use(0, 0, 100);
        CHECK.same("the same use again", x.state(4), 3);
    }

    private static void promise12FewerThan200() {
        CHECK.says("Promise 12", "as long as there are fewer than 200");
        ConsentRegister x = register();
        for (int i = 0; i < 198; i++) {
            int minute = i % 100;
            CHECK.refuses("no consent yet", Check.STATE, () -> x.use(0, 0, minute));
        }
        CHECK.same("uses logged", x.state(4), 198);
        x.use(0, 1, 300);
        CHECK.same("uses logged", x.state(4), 199);
        x.use(0, 2, 400);
        CHECK.same("uses logged", x.state(4), 200);
        CHECK.same("the 200th", x.logged(199, 2), 400);
        CHECK.same("a 201st is answered", x.use(0, 3, 500), 11);
        CHECK.refuses("a 202nd is refused", Check.STATE, () -> x.use(1, 3, 600));
        CHECK.same("they are not logged", x.state(4), 200);
        CHECK.same("nor to be found", x.logged(200, 2), -1);
        CHECK.same("nor in the place of the last", x.logged(199, 2), 400);
        CHECK.same("nor in the place of the first", x.logged(0, 2), 0);
        CHECK.refuses("a full log hides no wrong item", Check.MISSING, () -> x.use(2, 0, 100));
        CHECK.refuses("a full log hides no wrong minute", Check.ARGUMENT, () -> x.use(0, 0, -1));
    }

    private static void promise12FullOfUsesWithGrounds() {
        CHECK.says("Promise 12", "as long as there are fewer than 200");
        ConsentRegister x = register();
        for (int i = 0; i < 205; i++) {
            CHECK.same("use " + i, x.use(0, 0, 100 + i), 11);
        }
        CHECK.same("uses logged", x.state(4), 200);
        for (int i = 0; i < 200; i += 199) {
            CHECK.same("the minute of use " + i, x.logged(i, 2), 100 + i);
        }
    }

    private static void promise13BeforeAny() {
        CHECK.says("Promise 13", "-1 before any");
        ConsentRegister x = register();
        CHECK.same("before any", x.why(), -1);
        x.hold(1, 0, 0);
        x.peek(0);
        CHECK.same("no other call is a use", x.why(), -1);
    }

    private static void promise13OneToFour() {
        CHECK.says("Promise 13", "1 to 4");
        ConsentRegister x = register();
        x.contract(2, 1, 0, 5);
        x.duty(0, 2, 5);
        x.hold(100, 3, 0);
        int[][] uses = {{0, 0, 100, 1}, {1, 1, 5, 2}, {1, 2, 10 * DAY, 3}, {1, 3, 0, 4}, {0, 0, 100, 1}};
        for (int[] use : uses) {
            x.use(use[0], use[1], use[2]);
            CHECK.same("why", x.why(), use[3]);
            CHECK.same("asked again", x.why(), use[3]);
        }
        x.erase(1, 0);
        x.purpose(0);
        CHECK.same("other calls leave it", x.why(), 1);
    }

    private static void promise13None() {
        CHECK.says("Promise 13", "0 when there was none");
        ConsentRegister x = register();
        CHECK.refuses("no ground", Check.STATE, () -> x.use(1, 0, 100));
        CHECK.same("why", x.why(), 0);
        x.use(0, 0, 100);
        CHECK.refuses("no ground", Check.STATE, () -> x.use(0, 0, 99));
        CHECK.same("why", x.why(), 0);
    }

    private static void promise13RefusedOnesDoNotCount() {
        CHECK.says("Promise 13", "The ground of the latest use() that was logged");
        ConsentRegister x = register();
        CHECK.refuses("no purpose", Check.ARGUMENT, () -> x.use(0, 9, 100));
        CHECK.refuses("no item", Check.MISSING, () -> x.use(9, 0, 100));
        CHECK.same("before any that counts", x.why(), -1);
        x.use(0, 0, 100);
        CHECK.refuses("no item", Check.MISSING, () -> x.use(9, 0, 0));
        CHECK.refuses("no purpose", Check.ARGUMENT, () -> x.use(0, 4, 0));
        CHECK.refuses("no minute", Check.ARGUMENT, () -> x.use(0, 0, -1));
        CHECK.same("of the one before", x.why(), 1);
    }

    private static void promise13CouldHaveBeenLogged() {
        CHECK.says("Promise 13", "or could have been");
        ConsentRegister x = register();
        for (int i = 0; i < 200; i++) {
            x.use(0, 0, 100);
        }
        CHECK.refuses("a 201st", Check.STATE, () -> x.use(1, 0, 100));
        CHECK.same("why of the 201st", x.why(), 0);
        x.contract(2, 0, 0, 9);
        x.use(1, 0, 9);
        CHECK.same("why of the 202nd", x.why(), 2);
        CHECK.refuses("no item", Check.MISSING, () -> x.use(9, 0, 0));
        CHECK.same("why of the 202nd still", x.why(), 2);
    }

    private static void promise17Cells() {
        CHECK.says("Promise 17", "0 the item, 1 the purpose, 2 the minute, 3 the ground (0: none)");
        ConsentRegister x = register();
        x.contract(2, 3, 0, 0);
        x.use(0, 2, 177);
        CHECK.refuses("no ground", Check.STATE, () -> x.use(1, 1, 10_000_000));
        x.use(1, 3, 0);
        long[][] want = {{0, 2, 177, 1}, {1, 1, 10_000_000, 0}, {1, 3, 0, 2}};
        for (int i = 0; i < want.length; i++) {
            for (int what = 0; what < 4; what++) {
                CHECK.same("logged(" + i + ", " + what + ")", x.logged(i, what), want[i][what]);
            }
        }
    }

    private static void promise17NoneSuch() {
        CHECK.says("Promise 17", "-1 when there is none such");
        ConsentRegister x = register();
        x.use(0, 0, 100);
        x.use(0, 0, 101);
        for (int i : new int[] {-1, 2, 199, 200, LOW, HIGH}) {
            for (int what = -1; what <= 4; what++) {
                CHECK.same("logged(" + i + ", " + what + ")", x.logged(i, what), -1);
            }
        }
    }

    private static void promise17Others() {
        CHECK.says("Promise 17", "or for others");
        ConsentRegister x = register();
        x.use(0, 0, 100);
        for (int what : new int[] {-1, 4, 5, LOW, HIGH}) {
            CHECK.same("logged(0, " + what + ")", x.logged(0, what), -1);
        }
    }

    private static void logIsWithoutValues() {
        CHECK.says("What it is", "each use is logged, without values");
        ConsentRegister x = register();
        x.use(0, 2, 177);
        for (int what = -20; what <= 20; what++) {
            CHECK.that("logged(0, " + what + ") is not the value", x.logged(0, what) != 11);
        }
    }

    private static void promise17OutlivesTheItem() {
        CHECK.says("Promise 17", "Of the i-th use logged");
        ConsentRegister x = register();
        x.use(0, 2, 177);
        CHECK.same("erase it", x.erase(1, 0), 1);
        CHECK.same("its use stays logged", x.state(4), 1);
        CHECK.same("the item", x.logged(0, 0), 0);
        CHECK.same("the ground", x.logged(0, 3), 1);
    }
}
