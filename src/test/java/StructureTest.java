/** Promises 1 to 3: a new object, purpose, kind. */
public final class StructureTest {
    private static final Check CHECK = new Check();

    public static void main(String[] args) {
        promise1NewObject();
        promise1ObjectsAreApart();
        promise2Purpose();
        promise2Refusals();
        promise3Kind();
        promise3Refusals();
        CHECK.end();
    }

    private static void promise1NewObject() {
        ConsentRegister x = new ConsentRegister();
        CHECK.same("new: purposes", x.state(0), 1);
        for (int what = 1; what <= 5; what++) {
            CHECK.same("new: state(" + what + ")", x.state(what), 0);
        }
        CHECK.same("new: why", x.why(), -1);
        CHECK.same("new: logged", x.logged(0, 0), -1);
        CHECK.same("new: peek", x.peek(0), 0);
        CHECK.same("new: look", x.look(0, 0), -1);
        for (int person = 0; person < 16; person++) {
            CHECK.same("new: held", x.held(person, 0), -1);
        }
        CHECK.same("new: erase", x.erase(0, 0), 0);
        CHECK.same("new: sweep", x.sweep(6944), 0);
        CHECK.refuses("new: no kind", Check.ARGUMENT, () -> x.put(0, 0, 1, 0));
        CHECK.refuses("new: no hold", Check.ARGUMENT, () -> x.lift(0, 0));
        CHECK.refuses("new: no item", Check.MISSING, () -> x.use(0, 0, 0));
        CHECK.same("new: the root is there", x.consent(0, 0, true, 0), 1);
    }

    private static void promise1ObjectsAreApart() {
        ConsentRegister x = new ConsentRegister();
        ConsentRegister y = new ConsentRegister();
        x.purpose(0);
        x.kind(5);
        x.put(1, 0, 9, 0);
        CHECK.same("other object: purposes", y.state(0), 1);
        CHECK.same("other object: kinds", y.state(1), 0);
        CHECK.same("other object: items", y.state(2), 0);
    }

    private static void promise2Purpose() {
        ConsentRegister x = new ConsentRegister();
        for (int i = 1; i < 16; i++) {
            CHECK.same("purpose " + i, x.purpose(i - 1), i);
            CHECK.same("purposes", x.state(0), i + 1);
        }
        CHECK.refuses("a 17th purpose", Check.STATE, () -> x.purpose(0));
        CHECK.refuses("a 17th purpose with a wrong parent", Check.ARGUMENT, () -> x.purpose(16));
        CHECK.same("purposes stay", x.state(0), 16);
        // A chain of sixteen: what is said at the root reaches the lowest one.
        x.kind(10);
        x.put(0, 0, 77, 0);
        x.consent(0, 0, true, 0);
        CHECK.same("from the root down the chain", x.use(0, 15, 0), 77);
    }

    private static void promise2Refusals() {
        ConsentRegister x = new ConsentRegister();
        for (int parent : new int[] {-1, 1, 16, Integer.MIN_VALUE, Integer.MAX_VALUE}) {
            CHECK.refuses("purpose(" + parent + ")", Check.ARGUMENT, () -> x.purpose(parent));
        }
        CHECK.same("nothing was made", x.state(0), 1);
    }

    private static void promise3Kind() {
        ConsentRegister x = new ConsentRegister();
        for (int i = 0; i < 8; i++) {
            CHECK.same("kind " + i, x.kind(i % 2 == 0 ? 1 : 5000), i);
            CHECK.same("kinds", x.state(1), i + 1);
        }
        CHECK.refuses("a 9th kind", Check.STATE, () -> x.kind(1));
        CHECK.refuses("a 9th kind with a wrong retention", Check.ARGUMENT, () -> x.kind(0));
        CHECK.same("kinds stay", x.state(1), 8);
        x.put(0, 6, 1, 0);
        x.put(0, 7, 1, 0);
        x.event(0, 6, 3);
        x.event(0, 7, 3);
        CHECK.same("retention of 1", x.look(0, 3), 4);
        CHECK.same("retention of 5,000", x.look(1, 3), 5003);
    }

    private static void promise3Refusals() {
        ConsentRegister x = new ConsentRegister();
        for (int days : new int[] {0, -1, 5001, Integer.MIN_VALUE, Integer.MAX_VALUE}) {
            CHECK.refuses("kind(" + days + ")", Check.ARGUMENT, () -> x.kind(days));
        }
        CHECK.same("nothing was made", x.state(1), 0);
    }
}
