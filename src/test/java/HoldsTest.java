/** Promises 10 and 11: hold and lift, with the days that a hold covers. */
public final class HoldsTest {
    private static final Check CHECK = new Check();
    private static final int DAY = 1440;

    public static void main(String[] args) {
        promise10Numbers();
        promise10Refusals();
        promise10WhomItCovers();
        promise10DaysItCovers();
        promise11Lift();
        promise11Refusals();
        promise11LiftedOnItsFirstDay();
        CHECK.end();
    }

    /** Purpose 1 below the root; kinds 0 and 1; item 0 of person 1 and kind 0, item 1 of person 2 and kind 1. */
    private static ConsentRegister register() {
        ConsentRegister x = new ConsentRegister();
        x.purpose(0);
        x.kind(10);
        x.kind(10);
        x.put(1, 0, 11, 0);
        x.put(2, 1, 22, 0);
        return x;
    }

    private static void promise10Numbers() {
        ConsentRegister x = register();
        int[] of = {0, 15, 100, 101};
        for (int i = 0; i < 30; i++) {
            CHECK.same("hold " + i, x.hold(of[i % 4], i % 2, i % 2 == 0 ? 0 : 6944), i);
            CHECK.same("holds", x.state(5), i + 1);
        }
        CHECK.refuses("a 31st hold", Check.STATE, () -> x.hold(0, 0, 0));
        CHECK.refuses("a 31st of no kind", Check.ARGUMENT, () -> x.hold(102, 0, 0));
        x.lift(0, 0);
        CHECK.refuses("lifted ones count", Check.STATE, () -> x.hold(0, 0, 0));
        CHECK.same("holds", x.state(5), 30);
    }

    private static void promise10Refusals() {
        ConsentRegister x = register();
        for (int of : new int[] {-1, 16, 99, 102, 107, 108, Integer.MIN_VALUE, Integer.MIN_VALUE + 100, Integer.MAX_VALUE}) {
            CHECK.refuses("hold of " + of, Check.ARGUMENT, () -> x.hold(of, 0, 0));
        }
        for (int purpose : new int[] {-1, 2, Integer.MIN_VALUE, Integer.MAX_VALUE}) {
            CHECK.refuses("hold for " + purpose, Check.ARGUMENT, () -> x.hold(0, purpose, 0));
        }
        for (int day : new int[] {-1, 6945, Integer.MIN_VALUE, Integer.MAX_VALUE}) {
            CHECK.refuses("hold from " + day, Check.ARGUMENT, () -> x.hold(0, 0, day));
        }
        CHECK.same("no hold was made", x.state(5), 0);
    }

    private static void promise10WhomItCovers() {
        ConsentRegister x = register();
        x.hold(101, 1, 0);
        CHECK.same("of its kind", x.use(1, 1, 0), 22);
        CHECK.refuses("of another kind", Check.STATE, () -> x.use(0, 1, 0));
        CHECK.refuses("the purpose that it names, not one above", Check.STATE, () -> x.use(1, 0, 0));
        ConsentRegister y = register();
        y.hold(1, 0, 0);
        CHECK.same("of its person", y.use(0, 0, 0), 11);
        CHECK.refuses("of another person", Check.STATE, () -> y.use(1, 0, 0));
        CHECK.refuses("the purpose that it names, not one below", Check.STATE, () -> y.use(0, 1, 0));
        y.derive(1, 1, 0);
        CHECK.same("derived, with that person among its own", y.use(2, 0, 0), 33);
    }

    private static void promise10DaysItCovers() {
        ConsentRegister x = register();
        x.hold(1, 0, 5);
        CHECK.refuses("the minute before its first day", Check.STATE, () -> x.use(0, 0, 5 * DAY - 1));
        CHECK.same("its first minute", x.use(0, 0, 5 * DAY), 11);
        CHECK.same("while it is not lifted", x.use(0, 0, 10_000_000), 11);
        CHECK.same("erase before it", x.erase(1, 5 * DAY), 0);
        CHECK.same("erase under it", x.erase(1, 10_000_000), 0);
        CHECK.same("erase the day before it", x.erase(1, 5 * DAY - 1), 1);
    }

    private static void promise11Lift() {
        ConsentRegister x = register();
        x.hold(1, 0, 5);
        x.lift(0, 8);
        CHECK.same("before the day on which it was lifted", x.use(0, 0, 8 * DAY - 1), 11);
        CHECK.refuses("on the day on which it was lifted", Check.STATE, () -> x.use(0, 0, 8 * DAY));
        CHECK.refuses("it was lifted", Check.STATE, () -> x.lift(0, 9));
        CHECK.refuses("it was lifted, and the day is wrong", Check.ARGUMENT, () -> x.lift(0, 4));
        CHECK.same("kept while it covers", x.erase(1, 8 * DAY - 1), 0);
        CHECK.same("not kept when it was lifted", x.erase(1, 8 * DAY), 1);
        CHECK.same("it stays a hold", x.state(5), 1);
    }

    private static void promise11Refusals() {
        ConsentRegister x = register();
        x.hold(1, 0, 5);
        x.hold(2, 0, 0);
        for (int hold : new int[] {-1, 2, 30, Integer.MIN_VALUE, Integer.MAX_VALUE}) {
            CHECK.refuses("lift of " + hold, Check.ARGUMENT, () -> x.lift(hold, 6));
        }
        for (int day : new int[] {-1, 4, 6945, Integer.MIN_VALUE, Integer.MAX_VALUE}) {
            CHECK.refuses("lift on " + day, Check.ARGUMENT, () -> x.lift(0, day));
        }
        CHECK.same("it still covers", x.use(0, 0, 10_000_000), 11);
        x.lift(0, 6944);
        CHECK.refuses("lifted on the last day", Check.STATE, () -> x.use(0, 0, 10_000_000));
        CHECK.refuses("lifted on the last day", Check.STATE, () -> x.lift(0, 6944));
        CHECK.same("the day before", x.use(0, 0, 6944 * DAY - 1), 11);
        CHECK.same("the other one still covers", x.use(1, 0, 10_000_000), 22);
    }

    private static void promise11LiftedOnItsFirstDay() {
        ConsentRegister x = register();
        x.hold(1, 0, 5);
        x.lift(0, 5);
        CHECK.refuses("it covers no day", Check.STATE, () -> x.use(0, 0, 5 * DAY));
        x.consent(1, 0, true, 0);
        CHECK.same("and keeps no other ground away", x.use(0, 0, 5 * DAY), 11);
        CHECK.same("by consent", x.why(), 1);
    }
}
