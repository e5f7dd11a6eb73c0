/** Promises 10 and 11, and what a hold covers: hold and lift. */
public final class HoldsTest {
    private static final Check CHECK = new Check();
    private static final int DAY = 1440;
    private static final int LOW = Integer.MIN_VALUE;
    private static final int HIGH = Integer.MAX_VALUE;

    public static void main(String[] args) {
        promise10Number();
        promise10NoSuchPerson();
        promise10NoSuchKind();
        promise10NoSuchPurpose();
        promise10Days();
        promise10ThereAre30();
        termsOfAPerson();
        termsOfAKind();
        termsFromItsFirstDayOn();
        termsUntilLifted();
        termsLiftedOnItsFirstDay();
        promise11Lift();
        promise11NoSuchHold();
        promise11BeforeItsFirstDay();
        promise11AboveTheLastDay();
        promise11WasLifted();
        CHECK.end();
    }

    /** Purpose 1 below the root; kinds 0 and 1; item 0 of person 1 and kind 0, item 1 of person 2 and kind 1. */
    private static ConsentRegister register() {
        ConsentRegister x = new ConsentRegister();
        x.purpose(0);
        x.kind(10);
        x.kind(10);
        x.put(1, 0, 11, 0);
        x.put(2, 1, 22, 0);
        return x;
    }

    private static void covered(ConsentRegister x, int item, int minute) {
        CHECK.same("use(" + item + ", 0, " + minute + ")", x.use(item, 0, minute), x.peek(item));
        CHECK.same("its ground", x.why(), 4);
    }

    private static void notCovered(ConsentRegister x, int item, int minute) {
        CHECK.refuses("use(" + item + ", 0, " + minute + ")", Check.STATE, () -> x.use(item, 0, minute));
    }

    private static void promise10Number() {
        CHECK.says("Promise 10", "its number from 0 on");
        ConsentRegister x = register();
        int[] of = {0, 15, 100, 101, 101};
        for (int i = 0; i < of.length; i++) {
            CHECK.same("hold of " + of[i], x.hold(of[i], i % 2, i), i);
            CHECK.same("holds", x.state(5), i + 1);
        }
    }

    private static void promise10NoSuchPerson() {
        CHECK.says("Promise 10", "there is no such person, kind or purpose");
        ConsentRegister x = register();
        for (int of : new int[] {-1, 16, 17, 99, -100, LOW, LOW + 100}) {
            CHECK.refuses("hold of " + of, Check.ARGUMENT, () -> x.hold(of, 0, 0));
        }
        CHECK.same("none was made", x.state(5), 0);
        CHECK.same("the first person", x.hold(0, 0, 0), 0);
        CHECK.same("the last person", x.hold(15, 0, 0), 1);
    }

    private static void promise10NoSuchKind() {
        CHECK.says("Promise 10", "of a kind (of is a kind's number and 100)");
        ConsentRegister x = new ConsentRegister();
        CHECK.refuses("no kind at all", Check.ARGUMENT, () -> x.hold(100, 0, 0));
        for (int kind = 0; kind < 8; kind++) {
            x.kind(1);
            CHECK.same("hold of kind " + kind, x.hold(100 + kind, 0, 0), kind);
            int none = 100 + kind + 1;
            CHECK.refuses("hold of " + none, Check.ARGUMENT, () -> x.hold(none, 0, 0));
        }
        for (int of : new int[] {99, 108, 116, 200, 1000, HIGH}) {
            CHECK.refuses("hold of " + of, Check.ARGUMENT, () -> x.hold(of, 0, 0));
        }
        CHECK.same("holds", x.state(5), 8);
    }

    private static void promise10NoSuchPurpose() {
        CHECK.says("Promise 10", "there is no such person, kind or purpose");
        ConsentRegister x = register();
        for (int purpose : new int[] {-1, 2, 16, LOW, HIGH}) {
            CHECK.refuses("hold of a person for " + purpose, Check.ARGUMENT, () -> x.hold(0, purpose, 0));
            CHECK.refuses("hold of a kind for " + purpose, Check.ARGUMENT, () -> x.hold(100, purpose, 0));
        }
        CHECK.same("the last one that is", x.hold(0, 1, 0), 0);
    }

    private static void promise10Days() {
        CHECK.says("Promise 10", "or the day is not 0 to 6,944");
        ConsentRegister x = register();
        for (int day : new int[] {-1, 6945, LOW, HIGH}) {
            CHECK.refuses("hold from " + day, Check.ARGUMENT, () -> x.hold(0, 0, day));
        }
        CHECK.same("none was made", x.state(5), 0);
        CHECK.same("from the first day", x.hold(1, 0, 0), 0);
        CHECK.same("from the last day", x.hold(2, 0, 6944), 1);
        covered(x, 0, 0);
        notCovered(x, 1, 6944 * DAY - 1);
        covered(x, 1, 6944 * DAY);
    }

    private static void promise10ThereAre30() {
        CHECK.says("Promise 10", "IllegalStateException: there are 30.");
        ConsentRegister x = register();
        for (int i = 0; i < 30; i++) {
            CHECK.same("hold " + i, x.hold(i % 2 == 0 ? i % 16 : 100 + i % 4 / 2, i % 2, i), i);
        }
        CHECK.refuses("a 31st of a person", Check.STATE, () -> x.hold(0, 0, 0));
        CHECK.refuses("a 31st of a kind", Check.STATE, () -> x.hold(101, 0, 0));
        x.lift(0, 0);
        CHECK.refuses("lifted ones are holds, too", Check.STATE, () -> x.hold(0, 0, 0));
        CHECK.same("holds", x.state(5), 30);
        x.lift(29, 29);
        CHECK.refuses("the 30th is one", Check.STATE, () -> x.lift(29, 29));
    }

    private static void termsOfAPerson() {
        CHECK.says("Terms", "COVERS items of that person (or kind)");
        ConsentRegister x = register();
        x.hold(1, 0, 0);
        covered(x, 0, 0);
        notCovered(x, 1, 0);
        x.derive(1, 1, 0);
        covered(x, 2, 0);
        CHECK.same("what it came from is kept", x.erase(2, 0), 0);
        x.derive(0, 1, 0);
        notCovered(x, 3, 0);
        CHECK.says("Terms", "names a purpose");
        CHECK.refuses("one below the one that it names", Check.STATE, () -> x.use(0, 1, 0));
    }

    private static void termsOfAKind() {
        CHECK.says("Terms", "A HOLD is of a person, or of a kind");
        ConsentRegister x = register();
        x.hold(101, 0, 0);
        covered(x, 1, 0);
        notCovered(x, 0, 0);
        x.derive(1, 1, 0);
        x.derive(1, 0, 1);
        covered(x, 2, 0);
        notCovered(x, 3, 0);
        ConsentRegister y = register();
        y.hold(101, 1, 0);
        CHECK.same("the one that it names", y.use(1, 1, 0), 22);
        CHECK.refuses("one above the one that it names", Check.STATE, () -> y.use(1, 0, 0));
        // Kind 1 is not person 1, nor is kind 0 person 0.
        ConsentRegister z = register();
        z.hold(0, 0, 0);
        notCovered(z, 0, 0);
        z.hold(1, 0, 0);
        notCovered(z, 1, 0);
    }

    private static void termsFromItsFirstDayOn() {
        CHECK.says("Terms", "on days from its first one on");
        ConsentRegister x = register();
        x.hold(1, 0, 5);
        x.hold(101, 0, 5);
        for (int item = 0; item < 2; item++) {
            notCovered(x, item, 5 * DAY - 1);
            covered(x, item, 5 * DAY);
            covered(x, item, 10_000_000);
        }
        CHECK.same("kept from then on", x.erase(1, 5 * DAY) + x.erase(2, 5 * DAY), 0);
        CHECK.same("kept on the last day", x.erase(1, 10_000_000) + x.erase(2, 10_000_000), 0);
        CHECK.same("not kept the minute before", x.erase(1, 5 * DAY - 1) + x.erase(2, 5 * DAY - 1), 2);
    }

    private static void termsUntilLifted() {
        CHECK.says("Terms", "until the day on which it was lifted (which it does not cover)");
        ConsentRegister x = register();
        x.hold(1, 0, 5);
        x.hold(101, 0, 5);
        x.lift(0, 8);
        x.lift(1, 8);
        for (int item = 0; item < 2; item++) {
            notCovered(x, item, 5 * DAY - 1);
            covered(x, item, 5 * DAY);
            covered(x, item, 8 * DAY - 1);
            notCovered(x, item, 8 * DAY);
            notCovered(x, item, 10_000_000);
        }
        CHECK.same("kept while it covers", x.erase(1, 8 * DAY - 1) + x.erase(2, 8 * DAY - 1), 0);
        CHECK.same("not kept on that day", x.erase(1, 8 * DAY) + x.erase(2, 8 * DAY), 2);
    }

    private static void termsLiftedOnItsFirstDay() {
        CHECK.says("Terms", "until the day on which it was lifted (which it does not cover)");
        ConsentRegister x = register();
        x.hold(1, 0, 5);
        x.lift(0, 5);
        for (int day = 4; day <= 6; day++) {
            notCovered(x, 0, day * DAY);
        }
        x.consent(1, 0, true, 0);
        CHECK.same("it keeps no other ground away", x.use(0, 0, 5 * DAY), 11);
        CHECK.same("by consent", x.why(), 1);
        CHECK.same("nor keeps an item", x.erase(1, 5 * DAY), 1);
    }

    private static void promise11Lift() {
        CHECK.says("Promise 11", "A hold is lifted on a day.");
        ConsentRegister x = register();
        x.hold(1, 0, 0);
        x.hold(1, 0, 0);
        x.hold(2, 0, 0);
        x.lift(1, 3);
        covered(x, 0, 3 * DAY);
        x.lift(0, 4);
        covered(x, 0, 4 * DAY - 1);
        notCovered(x, 0, 4 * DAY);
        covered(x, 1, 10_000_000);
        CHECK.same("they stay holds", x.state(5), 3);
    }

    private static void promise11NoSuchHold() {
        CHECK.says("Promise 11", "there is no such hold");
        ConsentRegister x = register();
        CHECK.refuses("none at all", Check.ARGUMENT, () -> x.lift(0, 6));
        x.hold(1, 0, 5);
        x.hold(2, 0, 0);
        for (int hold : new int[] {-1, 2, 29, 30, LOW, HIGH}) {
            CHECK.refuses("lift of " + hold, Check.ARGUMENT, () -> x.lift(hold, 6));
        }
        covered(x, 0, 6 * DAY);
        covered(x, 1, 6 * DAY);
    }

    private static void promise11BeforeItsFirstDay() {
        CHECK.says("Promise 11", "or the day is before its first one");
        ConsentRegister x = register();
        x.hold(1, 0, 5);
        x.hold(2, 0, 0);
        for (int day : new int[] {4, 0, -1, LOW}) {
            CHECK.refuses("lift on " + day, Check.ARGUMENT, () -> x.lift(0, day));
        }
        CHECK.refuses("lift on -1", Check.ARGUMENT, () -> x.lift(1, -1));
        covered(x, 0, 10_000_000);
        covered(x, 1, 10_000_000);
        x.lift(0, 5);
        x.lift(1, 0);
        notCovered(x, 0, 5 * DAY);
        notCovered(x, 1, 0);
    }

    private static void promise11AboveTheLastDay() {
        CHECK.says("Promise 11", "or above 6,944");
        ConsentRegister x = register();
        x.hold(1, 0, 0);
        x.hold(2, 0, 6944);
        for (int day : new int[] {6945, 10_000, HIGH}) {
            CHECK.refuses("lift on " + day, Check.ARGUMENT, () -> x.lift(0, day));
            CHECK.refuses("lift on " + day, Check.ARGUMENT, () -> x.lift(1, day));
        }
        covered(x, 0, 10_000_000);
        covered(x, 1, 10_000_000);
        x.lift(0, 6944);
        x.lift(1, 6944);
        covered(x, 0, 6944 * DAY - 1);
        notCovered(x, 0, 6944 * DAY);
        notCovered(x, 1, 10_000_000);
    }

    private static void promise11WasLifted() {
        CHECK.says("Promise 11", "IllegalStateException: it was lifted.");
        ConsentRegister x = register();
        x.hold(1, 0, 5);
        x.hold(2, 0, 0);
        x.lift(0, 8);
        for (int day : new int[] {5, 7, 8, 9, 6944}) {
            CHECK.refuses("lift again on " + day, Check.STATE, () -> x.lift(0, day));
        }
        covered(x, 0, 8 * DAY - 1);
        notCovered(x, 0, 8 * DAY);
        x.lift(1, 6944);
        CHECK.refuses("lifted on the last day", Check.STATE, () -> x.lift(1, 6944));
    }
}
