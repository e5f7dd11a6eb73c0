/** Promises 16 and 20: held and state. */
public final class ViewsTest {
    private static final Check CHECK = new Check();
    private static final int LOW = Integer.MIN_VALUE;
    private static final int HIGH = Integer.MAX_VALUE;

    public static void main(String[] args) {
        promise16Numbers();
        promise16ThoseThatLive();
        promise16NoneSuch();
        promise16NoSuchPerson();
        promise16All100();
        promise20EachCount();
        promise20Full();
        promise20Others();
        CHECK.end();
    }

    /** Items 0, 2 of person 0, 1 of person 15, a sum 3 of both and a copy 4 of item 2. */
    private static ConsentRegister register() {
        ConsentRegister x = new ConsentRegister();
        x.kind(10);
        x.put(0, 0, 1, 0);
        x.put(15, 0, 1, 0);
        x.put(0, 0, 1, 0);
        x.derive(1, 1, 0);
        x.derive(0, 2, 0);
        return x;
    }

    private static void held(ConsentRegister x, int person, int... want) {
        for (int i = 0; i < want.length; i++) {
            CHECK.same("held(" + person + ", " + i + ")", x.held(person, i), want[i]);
        }
        CHECK.same("held(" + person + ", " + want.length + ")", x.held(person, want.length), -1);
    }

    private static void promise16Numbers() {
        CHECK.says("Promise 16", "the i-th one's number (from 0 on)");
        ConsentRegister x = register();
        held(x, 0, 0, 2, 3, 4);
        held(x, 15, 1, 3);
        held(x, 1);
    }

    private static void promise16ThoseThatLive() {
        CHECK.says("Promise 16", "Of those that live and have this person");
        ConsentRegister x = register();
        x.erase(0, 0);
        held(x, 0, 3);
        held(x, 15, 1, 3);
        x.put(0, 0, 9, 0);
        held(x, 0, 3, 5);
        x.erase(15, 0);
        held(x, 0, 5);
        held(x, 15);
    }

    private static void promise16NoneSuch() {
        CHECK.says("Promise 16", "-1 when there is none such");
        ConsentRegister x = register();
        for (int i : new int[] {-1, 4, 5, 99, 100, LOW, HIGH}) {
            CHECK.same("held(0, " + i + ")", x.held(0, i), -1);
        }
    }

    private static void promise16NoSuchPerson() {
        CHECK.says("Promise 16", "-1 when there is none such");
        ConsentRegister x = register();
        for (int person : new int[] {-1, 16, 31, 32, 47, 100, LOW, HIGH}) {
            for (int i = -1; i <= 1; i++) {
                CHECK.same("held(" + person + ", " + i + ")", x.held(person, i), -1);
            }
        }
    }

    private static void promise16All100() {
        CHECK.says("Promise 16", "the i-th one's number (from 0 on)");
        ConsentRegister x = new ConsentRegister();
        x.kind(1);
        for (int i = 0; i < 100; i++) {
            x.put(7, 0, i, 0);
        }
        CHECK.same("the first", x.held(7, 0), 0);
        CHECK.same("the last", x.held(7, 99), 99);
        CHECK.same("no more", x.held(7, 100), -1);
    }

    private static void promise20EachCount() {
        CHECK.says("Promise 20", "0 purposes, 1 kinds, 2 items that were ever, 3 items that live, 4 uses logged, 5 holds");
        ConsentRegister x = register();
        x.purpose(0);
        x.purpose(1);
        x.kind(1);
        x.kind(2);
        x.kind(3);
        x.consent(15, 0, true, 0);
        x.use(1, 0, 0);
        CHECK.refuses("no ground", Check.STATE, () -> x.use(0, 0, 0));
        x.hold(4, 0, 0);
        x.erase(15, 0);
        int[] want = {3, 4, 5, 4, 2, 1};
        for (int what = 0; what < want.length; what++) {
            CHECK.same("state(" + what + ")", x.state(what), want[what]);
        }
        x.lift(0, 0);
        CHECK.same("a lifted hold is one", x.state(5), 1);
    }

    private static void promise20Full() {
        CHECK.says("Promise 20", "0 purposes, 1 kinds, 2 items that were ever, 3 items that live, 4 uses logged, 5 holds");
        ConsentRegister x = new ConsentRegister();
        for (int i = 0; i < 15; i++) {
            x.purpose(0);
        }
        for (int i = 0; i < 8; i++) {
            x.kind(1);
        }
        for (int i = 0; i < 100; i++) {
            x.put(i % 2, 0, 1, 0);
        }
        for (int i = 0; i < 30; i++) {
            x.hold(1, 0, 0);
        }
        for (int i = 0; i < 201; i++) {
            x.use(1, 0, 0);
        }
        x.erase(0, 0);
        int[] want = {16, 8, 100, 50, 200, 30};
        for (int what = 0; what < want.length; what++) {
            CHECK.same("state(" + what + ")", x.state(what), want[what]);
        }
    }

    private static void promise20Others() {
        CHECK.says("Promise 20", "-1 for others");
        ConsentRegister x = register();
        for (int what : new int[] {-1, 6, 7, LOW, HIGH}) {
            CHECK.same("state(" + what + ")", x.state(what), -1);
        }
    }
}
