/** A register with every table full, as far as 512 calls can fill it: no call goes past a table's end. */
public final class FullTest {
    private static final Check CHECK = new Check();
    private static final int DAY = 1440;

    public static void main(String[] args) {
        ConsentRegister x = full();
        promise12LastEntriesCount(x);
        promise15And14LastEntriesCount(x);
        CHECK.end();
    }

    /** Purposes in one chain of 16. What matters stands in each table's last row, what fills it is of person 15 or kind 7. */
    private static ConsentRegister full() {
        ConsentRegister x = new ConsentRegister();
        for (int i = 0; i < 15; i++) {
            x.purpose(i);
        }
        for (int i = 0; i < 8; i++) {
            x.kind(10);
        }
        for (int i = 0; i < 99; i++) {
            x.consent(15, 0, false, 0);
            x.put(15, 7, 1, 6000);
        }
        for (int i = 0; i < 39; i++) {
            x.contract(15, 0, 0, 0);
        }
        for (int i = 0; i < 19; i++) {
            x.duty(7, 0, 1);
        }
        for (int i = 0; i < 59; i++) {
            x.event(15, 7, 0);
        }
        for (int i = 0; i < 29; i++) {
            x.hold(15, 0, 0);
            if (i % 2 == 0) {
                x.lift(i, 0);
            }
        }
        x.put(1, 2, 5, 100);
        return x;
    }

    private static void ground(ConsentRegister x, int day, int want) {
        if (want == 0) {
            CHECK.refuses("use on day " + day, Check.STATE, () -> x.use(99, 15, day * DAY));
        } else {
            CHECK.same("use on day " + day, x.use(99, 15, day * DAY), 5);
        }
        CHECK.same("its ground", x.why(), want);
    }

    private static void promise12LastEntriesCount(ConsentRegister x) {
        ground(x, 100, 0);
        x.hold(102, 15, 0);
        ground(x, 100, 4);
        x.duty(2, 15, 2);
        ground(x, 100, 3);
        ground(x, 102, 4);
        // From the root down to the sixteenth purpose.
        x.contract(1, 0, 101 * DAY, 101 * DAY);
        ground(x, 101, 2);
        x.consent(1, 0, true, 103 * DAY);
        ground(x, 102, 4);
        ground(x, 103, 1);
        CHECK.refuses("a purpose that no row names", Check.STATE, () -> x.use(99, 14, 50 * DAY));
    }

    private static void promise15And14LastEntriesCount(ConsentRegister x) {
        x.event(1, 2, 100);
        CHECK.same("due", x.look(99, 3), 110);
        CHECK.same("derived", x.look(99, 4), 0);
        CHECK.same("held", x.held(1, 0), 99);
        CHECK.same("the 99th of another person", x.held(15, 98), 98);
        CHECK.same("and no more", x.held(15, 99), -1);
        CHECK.same("kept by the last hold", x.sweep(110), 0);
        x.lift(29, 105);
        CHECK.same("kept by it before", x.erase(1, 104 * DAY), 0);
        CHECK.same("kept by the last duty", x.erase(1, 101 * DAY), 0);
        CHECK.same("not due", x.sweep(109), 0);
        CHECK.same("not kept", x.sweep(110), 1);
        CHECK.same("kept by holds that were not lifted", x.erase(15, 0), 0);
        CHECK.same("living", x.state(3), 99);
        CHECK.same("ever", x.state(2), 100);
    }
}
