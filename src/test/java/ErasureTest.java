/** Promises 14 and 15: erase and sweep, with what is kept and what goes along. */
public final class ErasureTest {
    private static final Check CHECK = new Check();
    private static final int DAY = 1440;

    public static void main(String[] args) {
        promise14Refusals();
        promise14PutOnly();
        promise14CopiesAndFlagsGo();
        promise14SumsStay();
        promise14KeptByHold();
        promise14KeptByDuty();
        promise14KeptByDerived();
        promise14SumBetweenKeptAndNot();
        promise14NotKeptThroughErased();
        promise15Refusals();
        promise15Due();
        promise15Kept();
        promise15DerivedGo();
        CHECK.end();
    }

    /** Purpose 1; kinds 0 (10 days) and 1 (20 days); items 0, 1, 2 of persons 0, 1, 2, kind 0, day 5: 100, 200, 300. */
    private static ConsentRegister register() {
        ConsentRegister x = new ConsentRegister();
        x.purpose(0);
        x.kind(10);
        x.kind(20);
        x.put(0, 0, 100, 5);
        x.put(1, 0, 200, 5);
        x.put(2, 0, 300, 5);
        return x;
    }

    private static void living(ConsentRegister x, int... items) {
        int bits = 0;
        for (int item : items) {
            bits |= 1 << item;
        }
        for (int item = 0; item < x.state(2); item++) {
            boolean lives = (bits >> item & 1) == 1;
            CHECK.that("item " + item + (lives ? " lives" : " is erased"), x.look(item, 0) != -1 == lives);
            if (!lives) {
                CHECK.same("the word of the erased item " + item, x.peek(item), 0);
            }
        }
        CHECK.same("how many live", x.state(3), items.length);
    }

    private static void promise14Refusals() {
        ConsentRegister x = register();
        for (int person : new int[] {-1, 16, 32, Integer.MIN_VALUE, Integer.MAX_VALUE}) {
            CHECK.refuses("erase " + person, Check.ARGUMENT, () -> x.erase(person, 0));
        }
        for (int minute : new int[] {-1, 10_000_001, Integer.MIN_VALUE, Integer.MAX_VALUE}) {
            CHECK.refuses("erase at " + minute, Check.ARGUMENT, () -> x.erase(0, minute));
        }
        living(x, 0, 1, 2);
        CHECK.same("a person without items", x.erase(15, 10_000_000), 0);
        living(x, 0, 1, 2);
    }

    private static void promise14PutOnly() {
        ConsentRegister x = register();
        x.put(0, 1, 7, 6000);
        x.derive(1, 1, 2);
        CHECK.same("all that were put of a person, of every kind and day", x.erase(0, 0), 2);
        living(x, 1, 2, 4);
        CHECK.same("once only", x.erase(0, 0), 0);
        x.derive(1, 1, 4);
        CHECK.same("one of two inputs", x.erase(1, 0), 1);
        living(x, 2, 4, 5);
        CHECK.same("the last input", x.erase(2, 0), 3);
        living(x);
    }

    private static void promise14CopiesAndFlagsGo() {
        ConsentRegister x = register();
        x.derive(0, 0, 0);
        x.derive(2, 0, 1);
        x.derive(2, 1, 0);
        x.derive(2, 1, 2);
        x.derive(0, 4, 0);
        x.derive(0, 3, 0);
        CHECK.same("how many go", x.erase(0, 0), 6);
        living(x, 1, 2, 6);
        CHECK.same("a flag of others stays", x.peek(6), 0);
        CHECK.same("derived from 1 straight", x.look(1, 4), 1);
    }

    private static void promise14SumsStay() {
        ConsentRegister x = register();
        x.derive(0, 0, 0);
        x.derive(1, 3, 1);
        x.derive(1, 0, 3);
        x.derive(2, 4, 2);
        x.derive(0, 5, 0);
        CHECK.same("sum", x.peek(4), 300);
        CHECK.same("how many go", x.erase(0, 0), 4);
        living(x, 1, 2, 4, 6);
        CHECK.same("the sum of those that live", x.peek(4), 200);
        CHECK.same("the flag of it", x.peek(6), 0);
        CHECK.same("the sum's persons stay", x.look(4, 2), 3);
        CHECK.same("how many go then", x.erase(1, 0), 3);
        living(x, 2);
    }

    private static void promise14KeptByHold() {
        ConsentRegister x = register();
        x.put(0, 1, 8, 5);
        x.hold(101, 1, 20);
        x.hold(1, 0, 20);
        CHECK.same("of a person who is held", x.erase(1, 20 * DAY), 0);
        CHECK.same("of a kind that is held", x.erase(0, 20 * DAY), 1);
        living(x, 1, 2, 3);
        CHECK.same("its value stays", x.peek(3), 8);
        CHECK.same("before the hold", x.erase(0, 20 * DAY - 1), 1);
        living(x, 1, 2);
    }

    private static void promise14KeptByDuty() {
        ConsentRegister x = register();
        x.duty(0, 1, 3);
        CHECK.same("its first day", x.erase(0, 5 * DAY), 0);
        CHECK.same("its last minute", x.erase(0, 8 * DAY - 1), 0);
        CHECK.same("after it", x.erase(0, 8 * DAY), 1);
        CHECK.same("before it", x.erase(1, 5 * DAY - 1), 1);
        x.duty(1, 1, 5000);
        CHECK.same("another kind's", x.erase(2, 8 * DAY), 1);
        living(x);
    }

    private static void promise14KeptByDerived() {
        ConsentRegister x = register();
        x.put(3, 1, 1, 0);
        x.derive(0, 0, 0);
        x.derive(1, 4, 1);
        x.derive(2, 3, 5);
        x.derive(0, 0, 0);
        // Item 6 is of kind 1, as its first input is; a hold of that kind keeps all that it came from.
        x.hold(101, 0, 0);
        CHECK.same("kept through a flag, a sum and a copy", x.erase(0, 0), 0);
        living(x, 0, 1, 2, 3, 4, 5, 6, 7);
        CHECK.same("kept through a flag and a sum", x.erase(1, 0), 0);
        CHECK.same("not kept", x.erase(2, 0), 1);
        x.lift(0, 0);
        CHECK.same("lifted", x.erase(0, 0), 3);
        living(x, 1, 3, 5, 6);
        CHECK.same("the sum follows", x.peek(5), 200);
    }

    private static void promise14SumBetweenKeptAndNot() {
        ConsentRegister x = register();
        x.put(0, 1, 40, 5);
        x.derive(1, 0, 3);
        x.derive(2, 3, 0);
        x.duty(1, 0, 1);
        // Kind 1 covers item 3 and the flag 5 on day 5, and so item 0; the sum 4 is kept by none.
        CHECK.same("all are kept", x.erase(0, 5 * DAY), 0);
        living(x, 0, 1, 2, 3, 4, 5);
        ConsentRegister y = register();
        y.put(0, 1, 40, 5);
        y.derive(1, 0, 3);
        y.duty(1, 0, 1);
        CHECK.same("the one that is not kept", y.erase(0, 5 * DAY), 1);
        living(y, 1, 2, 3, 4);
        CHECK.same("the sum of the kept one", y.peek(4), 40);
    }

    /** What is derived straight keeps an item; an erased flag between them hands nothing on. */
    private static void promise14NotKeptThroughErased() {
        ConsentRegister x = register();
        x.put(3, 1, 1, 5);
        x.derive(2, 0, 1);
        x.derive(1, 3, 4);
        CHECK.same("a flag goes with its input", x.erase(1, 0), 2);
        living(x, 0, 2, 3, 5);
        x.hold(101, 0, 0);
        CHECK.same("the sum is kept, but not what the erased flag came from", x.erase(0, 0), 1);
        living(x, 2, 3, 5);
    }

    private static void promise15Refusals() {
        ConsentRegister x = register();
        for (int day : new int[] {-1, 6945, Integer.MIN_VALUE, Integer.MAX_VALUE}) {
            CHECK.refuses("sweep(" + day + ")", Check.ARGUMENT, () -> x.sweep(day));
        }
        CHECK.same("none is due", x.sweep(6944), 0);
        living(x, 0, 1, 2);
    }

    private static void promise15Due() {
        ConsentRegister x = register();
        x.put(0, 1, 1, 5);
        x.event(0, 0, 7);
        x.event(0, 1, 7);
        x.event(1, 0, 4);
        x.event(2, 0, 5);
        CHECK.same("the day before", x.sweep(14), 0);
        CHECK.same("due on that day", x.sweep(15), 1);
        living(x, 0, 1, 3);
        x.event(0, 0, 30);
        CHECK.same("a later event puts it off", x.sweep(39), 1);
        living(x, 0, 1);
        CHECK.same("due before", x.sweep(6944), 1);
        living(x, 1);
    }

    private static void promise15Kept() {
        ConsentRegister x = register();
        x.event(0, 0, 5);
        x.event(1, 0, 5);
        x.hold(0, 0, 0);
        x.lift(0, 50);
        CHECK.same("kept on that day", x.sweep(49), 1);
        living(x, 0, 2);
        CHECK.same("no longer kept", x.sweep(50), 1);
        living(x, 2);
        x.duty(0, 0, 100);
        x.event(2, 0, 5);
        CHECK.same("kept by a duty", x.sweep(104), 0);
        CHECK.same("after the duty", x.sweep(105), 1);
        living(x);
    }

    private static void promise15DerivedGo() {
        ConsentRegister x = register();
        x.derive(0, 0, 0);
        x.derive(1, 3, 1);
        x.derive(2, 2, 4);
        x.event(0, 0, 5);
        CHECK.same("the item and its copy", x.sweep(15), 2);
        living(x, 1, 2, 4, 5);
        CHECK.same("the sum follows", x.peek(4), 200);
        CHECK.same("the flag follows", x.peek(5), 1);
        x.event(1, 0, 5);
        CHECK.same("the item, the sum and the flag", x.sweep(15), 3);
        living(x, 2);
    }
}
