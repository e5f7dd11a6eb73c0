/** 'What it is' and promises 1 to 3: a new object, purpose, kind. */
public final class StructureTest {
    private static final Check CHECK = new Check();

    public static void main(String[] args) {
        the512thCall();
        promise1TheRootAlone();
        promise1NothingElse();
        promise1NothingToLookAt();
        promise1ObjectsAreApart();
        promise2Number();
        promise2NoSuchParent();
        promise2ThereAre16();
        promise3Number();
        promise3RetentionTooSmallOrTooLarge();
        promise3ThereAre8();
        CHECK.end();
    }

    private static void the512thCall() {
        CHECK.says("What it is", "at most 512 calls after it has been made");
        ConsentRegister x = new ConsentRegister();
        x.kind(10);
        x.put(3, 0, 44, 0);
        x.consent(3, 0, true, 0);
        for (int call = 4; call <= 510; call++) {
            CHECK.same("use, call " + call, x.use(0, 0, call), 44);
        }
        CHECK.same("call 511", x.derive(0, 0, 0), 1);
        CHECK.same("call 512", x.erase(3, 0), 2);
    }

    private static void promise1TheRootAlone() {
        CHECK.says("Promise 1", "The root alone");
        ConsentRegister x = new ConsentRegister();
        CHECK.same("purposes", x.state(0), 1);
        CHECK.same("the root is there", x.consent(0, 0, true, 0), 1);
        CHECK.refuses("no other purpose", Check.ARGUMENT, () -> x.consent(0, 1, true, 0));
    }

    private static void promise1NothingElse() {
        CHECK.says("Promise 1", "nothing else");
        ConsentRegister x = new ConsentRegister();
        for (int what = 1; what <= 5; what++) {
            CHECK.same("state(" + what + ")", x.state(what), 0);
        }
        CHECK.refuses("no kind", Check.ARGUMENT, () -> x.put(0, 0, 1, 0));
        CHECK.refuses("no kind", Check.ARGUMENT, () -> x.hold(100, 0, 0));
        CHECK.refuses("no hold", Check.ARGUMENT, () -> x.lift(0, 0));
        CHECK.refuses("no item", Check.MISSING, () -> x.use(0, 0, 0));
        CHECK.refuses("no item", Check.MISSING, () -> x.derive(0, 0, 0));
        CHECK.same("erase", x.erase(0, 0), 0);
        CHECK.same("sweep", x.sweep(6944), 0);
        CHECK.same("the first kind", x.kind(1), 0);
        CHECK.same("the first contract", x.contract(0, 0, 0, 0), 1);
        CHECK.same("the first duty", x.duty(0, 0, 1), 1);
        CHECK.same("the first event", x.event(0, 0, 0), 1);
        CHECK.same("the first hold", x.hold(0, 0, 0), 0);
        CHECK.same("the first item", x.put(0, 0, 0, 0), 0);
    }

    private static void promise1NothingToLookAt() {
        CHECK.says("Promise 1", "nothing else");
        ConsentRegister x = new ConsentRegister();
        CHECK.same("why", x.why(), -1);
        CHECK.same("peek", x.peek(0), 0);
        for (int what = 0; what <= 4; what++) {
            CHECK.same("logged", x.logged(0, what), -1);
            CHECK.same("look", x.look(0, what), -1);
        }
        for (int person = 0; person < 16; person++) {
            CHECK.same("held", x.held(person, 0), -1);
        }
    }

    private static void promise1ObjectsAreApart() {
        CHECK.says("Promise 1", "nothing else");
        ConsentRegister x = new ConsentRegister();
        ConsentRegister y = new ConsentRegister();
        x.purpose(0);
        x.kind(5);
        x.put(1, 0, 9, 0);
        x.hold(1, 0, 0);
        x.use(0, 0, 0);
        for (int what = 0; what <= 5; what++) {
            CHECK.same("the other object's state(" + what + ")", y.state(what), what == 0 ? 1 : 0);
        }
        CHECK.same("the other object's why", y.why(), -1);
    }

    private static void promise2Number() {
        CHECK.says("Promise 2", "A new purpose: its number.");
        ConsentRegister x = new ConsentRegister();
        CHECK.same("below the root", x.purpose(0), 1);
        CHECK.same("below the root again", x.purpose(0), 2);
        CHECK.same("below the newest", x.purpose(2), 3);
        CHECK.same("purposes", x.state(0), 4);
    }

    private static void promise2NoSuchParent() {
        CHECK.says("Promise 2", "there is no such parent");
        ConsentRegister x = new ConsentRegister();
        for (int parent : new int[] {-1, 1, 15, 16, Integer.MIN_VALUE, Integer.MAX_VALUE}) {
            CHECK.refuses("purpose(" + parent + ")", Check.ARGUMENT, () -> x.purpose(parent));
        }
        CHECK.same("none was made", x.state(0), 1);
        x.purpose(0);
        CHECK.refuses("the one that would be next", Check.ARGUMENT, () -> x.purpose(2));
        CHECK.same("the newest is a parent", x.purpose(1), 2);
    }

    private static void promise2ThereAre16() {
        CHECK.says("Promise 2", "there are 16");
        ConsentRegister x = new ConsentRegister();
        for (int i = 1; i < 16; i++) {
            CHECK.same("purpose " + i, x.purpose(i - 1), i);
        }
        CHECK.refuses("a 17th below the root", Check.STATE, () -> x.purpose(0));
        CHECK.refuses("a 17th below the newest", Check.STATE, () -> x.purpose(15));
        CHECK.refuses("none is 16", Check.ARGUMENT, () -> x.purpose(16));
        CHECK.same("purposes stay", x.state(0), 16);
        CHECK.same("the 16th is one", x.consent(0, 15, true, 0), 1);
    }

    private static void promise3Number() {
        CHECK.says("Promise 3", "A new kind: its number.");
        ConsentRegister x = new ConsentRegister();
        CHECK.same("kind", x.kind(3), 0);
        CHECK.same("kind of the same retention", x.kind(3), 1);
        CHECK.same("kinds", x.state(1), 2);
    }

    private static void promise3RetentionTooSmallOrTooLarge() {
        CHECK.says("Promise 3", "the retention is not 1 .. 5,000 days");
        ConsentRegister x = new ConsentRegister();
        for (int days : new int[] {0, -1, 5001, Integer.MIN_VALUE, Integer.MAX_VALUE}) {
            CHECK.refuses("kind(" + days + ")", Check.ARGUMENT, () -> x.kind(days));
        }
        CHECK.same("none was made", x.state(1), 0);
        CHECK.same("the least", x.kind(1), 0);
        CHECK.same("the most", x.kind(5000), 1);
        x.put(0, 0, 1, 3);
        x.put(0, 1, 1, 6944);
        x.event(0, 0, 3);
        x.event(0, 1, 6944);
        CHECK.same("due by the least", x.look(0, 3), 4);
        CHECK.same("due by the most, beyond the last day", x.look(1, 3), 11_944);
    }

    private static void promise3ThereAre8() {
        CHECK.says("Promise 3", "there are 8");
        ConsentRegister x = new ConsentRegister();
        for (int i = 0; i < 8; i++) {
            CHECK.same("kind " + i, x.kind(i + 1), i);
        }
        CHECK.refuses("a 9th kind", Check.STATE, () -> x.kind(1));
        CHECK.refuses("a 9th kind", Check.STATE, () -> x.kind(5000));
        CHECK.same("kinds stay", x.state(1), 8);
        CHECK.same("the 8th is one", x.put(0, 7, 1, 0), 0);
        x.event(0, 7, 0);
        CHECK.same("its retention", x.look(0, 3), 8);
        CHECK.refuses("none is 8", Check.ARGUMENT, () -> x.put(0, 8, 1, 0));
    }
}
