/** Promises 16 and 20: held and state. */
public final class ViewsTest {
    private static final Check CHECK = new Check();

    public static void main(String[] args) {
        promise16Held();
        promise16Others();
        promise20State();
        CHECK.end();
    }

    private static ConsentRegister register() {
        ConsentRegister x = new ConsentRegister();
        x.kind(10);
        x.put(0, 0, 1, 0);
        x.put(15, 0, 1, 0);
        x.put(0, 0, 1, 0);
        x.derive(1, 1, 0);
        x.derive(0, 2, 0);
        return x;
    }

    private static void held(ConsentRegister x, int person, int... want) {
        for (int i = 0; i < want.length; i++) {
            CHECK.same("held(" + person + ", " + i + ")", x.held(person, i), want[i]);
        }
        CHECK.same("held(" + person + ", " + want.length + ")", x.held(person, want.length), -1);
    }

    private static void promise16Held() {
        ConsentRegister x = register();
        held(x, 0, 0, 2, 3, 4);
        held(x, 15, 1, 3);
        held(x, 1);
        x.erase(0, 0);
        held(x, 0, 3);
        held(x, 15, 1, 3);
        x.erase(15, 0);
        held(x, 0);
        held(x, 15);
    }

    private static void promise16Others() {
        ConsentRegister x = register();
        for (int person : new int[] {-1, 16, 32, 47, Integer.MIN_VALUE, Integer.MAX_VALUE}) {
            CHECK.same("held(" + person + ", 0)", x.held(person, 0), -1);
        }
        for (int i : new int[] {-1, 4, 100, Integer.MIN_VALUE, Integer.MAX_VALUE}) {
            CHECK.same("held(0, " + i + ")", x.held(0, i), -1);
        }
    }

    private static void promise20State() {
        ConsentRegister x = register();
        x.purpose(0);
        x.purpose(1);
        x.kind(1);
        x.kind(2);
        x.kind(3);
        x.consent(15, 0, true, 0);
        x.use(1, 0, 0);
        CHECK.refuses("no ground", Check.STATE, () -> x.use(0, 0, 0));
        x.hold(4, 0, 0);
        x.erase(15, 0);
        int[] want = {3, 4, 5, 4, 2, 1};
        for (int what = 0; what < want.length; what++) {
            CHECK.same("state(" + what + ")", x.state(what), want[what]);
        }
        for (int what : new int[] {-1, 6, Integer.MIN_VALUE, Integer.MAX_VALUE}) {
            CHECK.same("state(" + what + ")", x.state(what), -1);
        }
    }
}
