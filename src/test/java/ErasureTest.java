/** Promises 14 and 15, and the terms behind them: erase and sweep, with what is kept and what goes along. */
public final class ErasureTest {
    private static final Check CHECK = new Check();
    private static final int DAY = 1440;
    private static final int LOW = Integer.MIN_VALUE;
    private static final int HIGH = Integer.MAX_VALUE;

    public static void main(String[] args) {
        promise14NoSuchPerson();
        promise14Minutes();
        promise14AllThatWerePut();
        promise14HowMany();
        termsCopyOrFlagGoes();
        termsSumGoesWithoutInput();
        termsAndSoOn();
        termsWordsAreZero();
        termsKeptByHold();
        termsKeptByAnyHold();
        termsKeptByDuty();
        termsKeptByAnyDuty();
        termsDutyWhateverItsPurpose();
        termsKeptByDerived();
        termsKeptDownALongChain();
        termsKeptBesideNotKept();
        termsNotKeptThroughErased();
        promise14OnTheDayOfAMinute();
        promise15Days();
        promise15DueOnADay();
        promise15OrWereBefore();
        promise15NotDue();
        promise15Kept();
        promise15HowMany();
        onlyItemsAreErased();
        CHECK.end();
    }

    /** Purpose 1; kinds 0 (10 days) and 1 (20 days); items 0, 1, 2 of persons 0, 1, 2, kind 0, day 5: 100, 200, 300. */
    private static ConsentRegister register() {
        ConsentRegister x = new ConsentRegister();
        x.purpose(0);
        x.kind(10);
        x.kind(20);
        x.put(0, 0, 100, 5);
        x.put(1, 0, 200, 5);
        x.put(2, 0, 300, 5);
        return x;
    }

    private static void living(ConsentRegister x, int... items) {
        int bits = 0;
        for (int item : items) {
            bits |= 1 << item;
        }
        for (int item = 0; item < x.state(2); item++) {
            boolean lives = (bits >> item & 1) == 1;
            CHECK.that("item " + item + (lives ? " lives" : " is erased"), x.look(item, 0) != -1 == lives);
            if (!lives) {
                CHECK.same("the word of the erased item " + item, x.peek(item), 0);
            }
        }
        CHECK.same("how many live", x.state(3), items.length);
    }

    private static void promise14NoSuchPerson() {
        CHECK.says("Promise 14", "there is no such person");
        ConsentRegister x = register();
        for (int person : new int[] {-1, 16, 32, LOW, HIGH}) {
            CHECK.refuses("erase " + person, Check.ARGUMENT, () -> x.erase(person, 0));
        }
        living(x, 0, 1, 2);
        CHECK.same("a person without items", x.erase(15, 0), 0);
        CHECK.same("the first person", x.erase(0, 0), 1);
        x.put(15, 0, 1, 0);
        CHECK.same("the last person", x.erase(15, 0), 1);
    }

    private static void promise14Minutes() {
        CHECK.says("Promise 14", "or the minute is not so");
        ConsentRegister x = register();
        for (int minute : new int[] {-1, -1440, 10_000_001, LOW, HIGH}) {
            CHECK.refuses("erase at " + minute, Check.ARGUMENT, () -> x.erase(0, minute));
        }
        living(x, 0, 1, 2);
        CHECK.same("the first minute", x.erase(0, 0), 1);
        CHECK.same("the last minute", x.erase(1, 10_000_000), 1);
        living(x, 2);
    }

    private static void promise14AllThatWerePut() {
        CHECK.says("Promise 14", "To ERASE all items that were put of a person");
        ConsentRegister x = register();
        x.put(0, 1, 7, 6000);
        x.derive(1, 1, 2);
        CHECK.same("of every kind and day", x.erase(0, 0), 2);
        living(x, 1, 2, 4);
        CHECK.same("once only", x.erase(0, 0), 0);
        CHECK.same("not a derived one that has this person, while an input lives", x.erase(1, 0), 1);
        living(x, 2, 4);
        CHECK.same("not a derived one, where none was put", x.erase(1, 0), 0);
        living(x, 2, 4);
    }

    private static void promise14HowMany() {
        CHECK.says("Promise 14", "how many items (derived ones, too) are erased");
        ConsentRegister x = register();
        x.derive(0, 0, 0);
        x.derive(0, 3, 0);
        x.derive(2, 1, 0);
        CHECK.same("one, two copies and a flag", x.erase(0, 0), 4);
        living(x, 1, 2);
        CHECK.same("one", x.erase(1, 0), 1);
        CHECK.same("none is left", x.erase(1, 0), 0);
    }

    private static void termsCopyOrFlagGoes() {
        CHECK.says("Terms", "and then each COPY or FLAG with an erased input");
        ConsentRegister x = register();
        x.derive(0, 0, 0);
        x.derive(2, 0, 1);
        x.derive(2, 1, 0);
        x.derive(2, 2, 1);
        x.derive(0, 1, 0);
        CHECK.same("how many go", x.erase(0, 0), 4);
        living(x, 1, 2, 6, 7);
        CHECK.same("a flag of others stays", x.peek(6), 1);
        CHECK.same("a copy of another one stays", x.peek(7), 200);
        // Whatever the values are, and whichever input goes.
        for (int value : new int[] {-5, 0, 5}) {
            for (int other : new int[] {-5, 0, 5}) {
                ConsentRegister y = register();
                y.put(3, 0, value, 5);
                y.put(4, 0, other, 5);
                y.derive(2, 3, 4);
                y.derive(2, 4, 3);
                y.derive(0, 3, 0);
                CHECK.same("the item, its copy and both flags", y.erase(3, 0), 4);
                living(y, 0, 1, 2, 4);
            }
        }
    }

    private static void termsSumGoesWithoutInput() {
        CHECK.says("Terms", "each SUM without an input that lives");
        ConsentRegister x = register();
        x.derive(1, 0, 1);
        x.derive(1, 1, 0);
        CHECK.same("one input goes", x.erase(0, 0), 1);
        living(x, 1, 2, 3, 4);
        CHECK.same("the sum of the second", x.peek(3), 200);
        CHECK.same("the sum of the first", x.peek(4), 200);
        CHECK.same("the other one goes", x.erase(1, 0), 3);
        living(x, 2);
        // Both inputs at once.
        ConsentRegister y = register();
        y.put(0, 1, 9, 0);
        y.derive(1, 0, 3);
        CHECK.same("both inputs go", y.erase(0, 0), 3);
        living(y, 1, 2);
    }

    private static void termsAndSoOn() {
        CHECK.says("Terms", "and so on");
        ConsentRegister x = register();
        x.derive(0, 0, 0);
        x.derive(1, 0, 3);
        x.derive(2, 1, 4);
        x.derive(1, 5, 2);
        x.derive(0, 5, 0);
        x.derive(1, 7, 4);
        CHECK.same("a copy, the sum of both, a flag, its copy and a sum of these", x.erase(0, 0), 6);
        living(x, 1, 2, 6);
        CHECK.same("the sum of what lives", x.peek(6), 300);
        // A chain of a hundred.
        ConsentRegister y = register();
        for (int i = 3; i < 100; i++) {
            y.derive(0, i == 3 ? 0 : i - 1, 0);
        }
        CHECK.same("down to the newest", y.erase(0, 0), 98);
        CHECK.same("others live", y.state(3), 2);
    }

    private static void termsWordsAreZero() {
        CHECK.says("Terms", "Erased items' words are 0.");
        ConsentRegister x = register();
        x.derive(0, 1, 0);
        x.derive(1, 1, 3);
        x.derive(2, 1, 0);
        CHECK.same("how many go", x.erase(1, 0), 4);
        for (int item : new int[] {1, 3, 4, 5}) {
            CHECK.same("peek(" + item + ")", x.peek(item), 0);
        }
        CHECK.same("another one's", x.peek(0), 100);
    }

    private static void termsKeptByHold() {
        CHECK.says("Terms", "when a hold or a duty covers it then");
        ConsentRegister x = register();
        x.put(0, 1, 8, 5);
        x.hold(101, 1, 20);
        x.hold(1, 0, 20);
        CHECK.same("of a person who is held", x.erase(1, 20 * DAY), 0);
        CHECK.same("of a kind that is held", x.erase(0, 20 * DAY), 1);
        living(x, 1, 2, 3);
        CHECK.same("its value stays", x.peek(3), 8);
        CHECK.same("before the hold", x.erase(0, 20 * DAY - 1), 1);
        living(x, 1, 2);
        x.lift(1, 25);
        CHECK.same("the day before it was lifted", x.erase(1, 25 * DAY - 1), 0);
        CHECK.same("when it was lifted", x.erase(1, 25 * DAY), 1);
        living(x, 2);
    }

    private static void termsKeptByAnyHold() {
        CHECK.says("Terms", "when a hold or a duty covers it then");
        for (int right = 0; right < 3; right++) {
            for (int of : new int[] {0, 100}) {
                ConsentRegister x = register();
                for (int i = 0; i < 3; i++) {
                    x.hold(i == right ? of : 7, 0, 0);
                }
                CHECK.same("one of three holds keeps it", x.erase(0, 0), 0);
                x.lift(right, 1);
                CHECK.same("the others do not", x.erase(0, DAY), 1);
            }
        }
    }

    private static void termsKeptByAnyDuty() {
        CHECK.says("Terms", "when a hold or a duty covers it then");
        for (int longest = 0; longest < 3; longest++) {
            ConsentRegister x = register();
            for (int i = 0; i < 3; i++) {
                x.duty(i == longest ? 0 : 1, i % 2, i == longest ? 7 : 100);
            }
            CHECK.same("one of three duties keeps it", x.erase(0, 12 * DAY - 1), 0);
            CHECK.same("the others do not", x.erase(0, 12 * DAY), 1);
        }
    }

    private static void termsKeptByDuty() {
        CHECK.says("Terms", "A duty COVERS an item of its kind on the days said at 3");
        ConsentRegister x = register();
        x.duty(0, 1, 3);
        CHECK.same("its first day", x.erase(0, 5 * DAY), 0);
        CHECK.same("its last minute", x.erase(0, 8 * DAY - 1), 0);
        CHECK.same("after it", x.erase(0, 8 * DAY), 1);
        CHECK.same("before it", x.erase(1, 5 * DAY - 1), 1);
        x.put(1, 0, 200, 5);
        CHECK.same("long after it", x.erase(1, 10_000_000), 1);
        x.put(1, 0, 200, 6944);
        CHECK.same("its end lies beyond the last day", x.erase(1, 10_000_000), 0);
        CHECK.same("long before it", x.erase(1, 0), 1);
        x.duty(1, 1, 5000);
        CHECK.same("another kind's", x.erase(2, 8 * DAY), 1);
        living(x);
    }

    private static void termsDutyWhateverItsPurpose() {
        CHECK.says("Terms", "whatever its purpose");
        for (int purpose = 0; purpose <= 1; purpose++) {
            ConsentRegister x = register();
            x.duty(0, purpose, 1);
            CHECK.same("on its one day", x.erase(0, 5 * DAY), 0);
            CHECK.same("on the day after", x.erase(0, 6 * DAY), 1);
        }
    }

    private static void termsKeptByDerived() {
        CHECK.says("Terms", "or an item that lives, is derived from it and is KEPT then");
        ConsentRegister x = register();
        x.put(3, 1, 1, 0);
        x.derive(0, 0, 0);
        x.derive(1, 4, 1);
        x.derive(2, 3, 5);
        x.derive(0, 0, 0);
        // Item 6 is of kind 1, as its first input is; a hold of that kind keeps all that it came from.
        x.hold(101, 0, 0);
        CHECK.same("kept through a flag, a sum and a copy", x.erase(0, 0), 0);
        living(x, 0, 1, 2, 3, 4, 5, 6, 7);
        CHECK.same("kept through a flag and a sum", x.erase(1, 0), 0);
        CHECK.same("not kept", x.erase(2, 0), 1);
        x.lift(0, 0);
        CHECK.same("lifted", x.erase(0, 0), 3);
        living(x, 1, 3, 5, 6);
        CHECK.same("the sum follows", x.peek(5), 200);
    }

    private static void termsKeptDownALongChain() {
        CHECK.says("Terms", "or an item that lives, is derived from it and is KEPT then");
        ConsentRegister x = register();
        for (int i = 3; i < 98; i++) {
            x.derive(0, i == 3 ? 0 : i - 1, 0);
        }
        x.put(3, 1, 1, 0);
        x.derive(2, 98, 97);
        x.hold(101, 0, 3);
        CHECK.same("the newest of a hundred keeps the oldest", x.erase(0, 3 * DAY), 0);
        CHECK.same("not on the day before", x.erase(0, 3 * DAY - 1), 97);
        CHECK.same("others live", x.state(3), 3);
    }

    private static void termsKeptBesideNotKept() {
        CHECK.says("Terms", "those of them that are not kept");
        ConsentRegister x = register();
        x.put(0, 1, 40, 5);
        x.derive(1, 0, 3);
        x.derive(2, 3, 0);
        x.duty(1, 0, 1);
        // Kind 1 covers item 3 and the flag 5 on day 5, and so item 0; the sum 4 is kept by none.
        CHECK.same("all are kept", x.erase(0, 5 * DAY), 0);
        living(x, 0, 1, 2, 3, 4, 5);
        ConsentRegister y = register();
        y.put(0, 1, 40, 5);
        y.derive(1, 0, 3);
        y.duty(1, 0, 1);
        CHECK.same("the one that is not kept", y.erase(0, 5 * DAY), 1);
        living(y, 1, 2, 3, 4);
        CHECK.same("the sum of the kept one", y.peek(4), 40);
    }

    /** What is derived straight keeps an item; an erased flag between them hands nothing on. */
    private static void termsNotKeptThroughErased() {
        CHECK.says("Terms", "An item that lives is KEPT on a day");
        ConsentRegister x = register();
        x.put(3, 1, 1, 5);
        x.derive(2, 0, 1);
        x.derive(1, 3, 4);
        CHECK.same("a flag goes with its input", x.erase(1, 0), 2);
        living(x, 0, 2, 3, 5);
        x.hold(101, 0, 0);
        CHECK.same("the sum is kept, but not what the erased flag came from", x.erase(0, 0), 1);
        living(x, 2, 3, 5);
    }

    private static void promise14OnTheDayOfAMinute() {
        CHECK.says("Promise 14", "on the day of a minute");
        ConsentRegister x = register();
        x.hold(0, 0, 1);
        x.lift(0, 2);
        x.hold(1, 0, 6944);
        CHECK.same("minute 1440", x.erase(0, 1440), 0);
        CHECK.same("minute 2879", x.erase(0, 2879), 0);
        CHECK.same("minute 2880", x.erase(0, 2880), 1);
        CHECK.same("the last minute", x.erase(1, 10_000_000), 0);
        CHECK.same("the last day's first minute", x.erase(1, 9_999_360), 0);
        CHECK.same("the minute before", x.erase(1, 9_999_359), 1);
        x.hold(2, 0, 0);
        x.lift(2, 1);
        CHECK.same("minute 1439", x.erase(2, 1439), 0);
        CHECK.same("minute 1440", x.erase(2, 1440), 1);
    }

    private static void promise15Days() {
        CHECK.says("Promise 15", "IllegalArgumentException: the day is not 0 to 6,944.");
        ConsentRegister x = register();
        x.event(0, 0, 5);
        for (int day : new int[] {-1, 6945, LOW, HIGH}) {
            CHECK.refuses("sweep(" + day + ")", Check.ARGUMENT, () -> x.sweep(day));
        }
        living(x, 0, 1, 2);
        CHECK.same("the first day", x.sweep(0), 0);
        CHECK.same("the last day", x.sweep(6944), 1);
        living(x, 1, 2);
    }

    private static void promise15DueOnADay() {
        CHECK.says("Promise 15", "To ERASE all items that are due on a day");
        ConsentRegister x = register();
        x.put(0, 1, 1, 5);
        x.event(0, 0, 7);
        x.event(0, 1, 7);
        CHECK.same("the day before", x.sweep(16), 0);
        CHECK.same("on that day", x.sweep(17), 1);
        living(x, 1, 2, 3);
        CHECK.same("the other kind's day before", x.sweep(26), 0);
        CHECK.same("the other kind's day", x.sweep(27), 1);
        CHECK.same("once only", x.sweep(27), 0);
        living(x, 1, 2);
        x.event(1, 0, 6934);
        CHECK.same("due on the last day", x.sweep(6944), 1);
        x.event(2, 0, 6935);
        CHECK.same("due beyond the last day", x.sweep(6944), 0);
        living(x, 2);
        ConsentRegister y = new ConsentRegister();
        y.kind(1);
        y.put(0, 0, 1, 0);
        y.event(0, 0, 0);
        CHECK.same("the earliest due day, the day before", y.sweep(0), 0);
        CHECK.same("the earliest due day", y.sweep(1), 1);
    }

    private static void promise15OrWereBefore() {
        CHECK.says("Promise 15", "or were before");
        ConsentRegister x = register();
        x.event(0, 0, 5);
        x.event(1, 0, 6);
        x.event(2, 0, 30);
        CHECK.same("two that were before", x.sweep(39), 2);
        living(x, 2);
        x.event(2, 0, 50);
        CHECK.same("a later event puts it off", x.sweep(59), 0);
        CHECK.same("until then", x.sweep(6944), 1);
    }

    private static void promise15NotDue() {
        CHECK.says("Terms", "without such an event it is not");
        ConsentRegister x = register();
        x.derive(0, 1, 0);
        x.event(0, 0, 4);
        x.event(1, 1, 5);
        x.event(3, 0, 5);
        CHECK.same("none is due", x.sweep(6944), 0);
        living(x, 0, 1, 2, 3);
    }

    private static void promise15Kept() {
        CHECK.says("Promise 15", "on that day");
        ConsentRegister x = register();
        x.event(0, 0, 5);
        x.event(1, 0, 5);
        x.hold(0, 0, 0);
        x.lift(0, 50);
        CHECK.same("kept on that day", x.sweep(49), 1);
        living(x, 0, 2);
        CHECK.same("no longer kept", x.sweep(50), 1);
        living(x, 2);
        x.duty(0, 0, 100);
        x.event(2, 0, 5);
        CHECK.same("kept by a duty", x.sweep(104), 0);
        CHECK.same("after the duty", x.sweep(105), 1);
        living(x);
        ConsentRegister y = register();
        y.event(0, 0, 5);
        y.put(3, 1, 1, 0);
        y.derive(2, 3, 0);
        y.hold(101, 0, 40);
        CHECK.same("kept by what is derived from it", y.sweep(40), 0);
        CHECK.same("not on the day before", y.sweep(39), 2);
        living(y, 1, 2, 3);
    }

    private static void promise15HowMany() {
        CHECK.says("Promise 15", "on that day: how many");
        ConsentRegister x = register();
        x.derive(0, 0, 0);
        x.derive(1, 3, 1);
        x.derive(2, 2, 4);
        x.event(0, 0, 5);
        CHECK.same("the item and its copy", x.sweep(15), 2);
        living(x, 1, 2, 4, 5);
        CHECK.same("the sum follows", x.peek(4), 200);
        CHECK.same("the flag follows", x.peek(5), 1);
        x.event(1, 0, 5);
        CHECK.same("the item, the sum and the flag", x.sweep(15), 3);
        living(x, 2);
    }

    /** Purposes 0 to 4, a ground of each number for its own purpose, for item 0 of person 0 and kind 0, day 5. */
    private static ConsentRegister withEveryGround() {
        ConsentRegister x = register();
        for (int i = 2; i <= 4; i++) {
            x.purpose(0);
        }
        x.consent(0, 1, true, 0);
        x.contract(0, 2, 0, 10_000_000);
        x.duty(0, 3, 5000);
        x.hold(100, 4, 30);
        x.event(0, 0, 6);
        x.put(5, 1, 7, 5);
        x.event(5, 1, 5);
        x.contract(5, 0, 9, 9);
        x.use(3, 0, 9);
        x.use(0, 2, 0);
        return x;
    }

    private static void onlyItemsAreErased() {
        for (int way = 0; way < 2; way++) {
            ConsentRegister x = withEveryGround();
            if (way == 0) {
                CHECK.says("Promise 14", "To ERASE all items that were put of a person");
                CHECK.same("erase", x.erase(5, 40 * DAY), 1);
            } else {
                CHECK.says("Promise 15", "To ERASE all items that are due on a day");
                CHECK.same("sweep", x.sweep(40), 1);
            }
            living(x, 0, 1, 2);
            CHECK.same("the latest use's ground stays", x.why(), 2);
            int[][] uses = {{3, 0, 9, 2}, {0, 2, 0, 2}};
            for (int what = 0; what < 4; what++) {
                CHECK.same("the log of the erased one, " + what, x.logged(0, what), uses[0][what]);
                CHECK.same("the log of another one, " + what, x.logged(1, what), uses[1][what]);
            }
            int[] counts = {5, 2, 4, 3, 2, 1};
            for (int what = 0; what < counts.length; what++) {
                CHECK.same("state(" + what + ")", x.state(what), counts[what]);
            }
            for (int ground = 1; ground <= 4; ground++) {
                CHECK.same("a use by ground " + ground, x.use(0, ground, 40 * DAY), 100);
                CHECK.same("its ground", x.why(), ground);
            }
            CHECK.same("the events stay", x.look(0, 3), 16);
            CHECK.same("how many consents", x.consent(0, 0, true, 0), 2);
            CHECK.same("how many contracts", x.contract(0, 0, 0, 0), 3);
            CHECK.same("how many duties", x.duty(0, 0, 1), 2);
            CHECK.same("how many events", x.event(0, 0, 0), 3);
            CHECK.same("the next hold", x.hold(0, 0, 0), 1);
        }
    }
}
