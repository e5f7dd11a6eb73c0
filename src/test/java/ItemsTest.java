/** Promises 7, 8, 18 and 19: put, derive, peek and look. */
public final class ItemsTest {
    private static final Check CHECK = new Check();

    public static void main(String[] args) {
        promise7Put();
        promise7Refusals();
        promise7Limit();
        promise8WhatIsDerived();
        promise8Refusals();
        promise8Limit();
        promise8ValuesFollow();
        promise8SumsRunOver();
        promise18Peek();
        promise19Look();
        promise19Due();
        CHECK.end();
    }

    /** Kinds 0 (10 days) and 1 (20 days). */
    private static ConsentRegister register() {
        ConsentRegister x = new ConsentRegister();
        x.kind(10);
        x.kind(20);
        return x;
    }

    private static void item(ConsentRegister x, int item, int kind, int day, int persons, long value) {
        CHECK.same("kind of " + item, x.look(item, 0), kind);
        CHECK.same("day of " + item, x.look(item, 1), day);
        CHECK.same("persons of " + item, x.look(item, 2), persons);
        CHECK.same("value of " + item, x.peek(item), value);
    }

    private static void promise7Put() {
        ConsentRegister x = register();
        CHECK.same("put", x.put(0, 0, Integer.MIN_VALUE, 0), 0);
        CHECK.same("put", x.put(15, 1, Integer.MAX_VALUE, 6944), 1);
        CHECK.same("put", x.put(15, 1, 0, 3), 2);
        item(x, 0, 0, 0, 1, Integer.MIN_VALUE);
        item(x, 1, 1, 6944, 1 << 15, Integer.MAX_VALUE);
        item(x, 2, 1, 3, 1 << 15, 0);
        CHECK.same("items ever", x.state(2), 3);
        CHECK.same("items living", x.state(3), 3);
        x.erase(15, 0);
        CHECK.same("a number is never given twice", x.put(15, 0, 1, 0), 3);
    }

    private static void promise7Refusals() {
        ConsentRegister x = register();
        for (int person : new int[] {-1, 16, Integer.MIN_VALUE, Integer.MAX_VALUE}) {
            CHECK.refuses("put of person " + person, Check.ARGUMENT, () -> x.put(person, 0, 1, 0));
        }
        for (int kind : new int[] {-1, 2, 8, Integer.MIN_VALUE, Integer.MAX_VALUE}) {
            CHECK.refuses("put of kind " + kind, Check.ARGUMENT, () -> x.put(0, kind, 1, 0));
        }
        for (int day : new int[] {-1, 6945, Integer.MIN_VALUE, Integer.MAX_VALUE}) {
            CHECK.refuses("put on day " + day, Check.ARGUMENT, () -> x.put(0, 0, 1, day));
        }
        CHECK.same("nothing was put", x.state(2), 0);
    }

    private static void promise7Limit() {
        ConsentRegister x = register();
        for (int i = 0; i < 100; i++) {
            CHECK.same("put " + i, x.put(i % 16, 0, i, 0), i);
        }
        CHECK.refuses("a 101st item", Check.STATE, () -> x.put(0, 0, 1, 0));
        CHECK.refuses("a 101st of no person", Check.ARGUMENT, () -> x.put(16, 0, 1, 0));
        x.erase(0, 0);
        CHECK.refuses("erased ones count", Check.STATE, () -> x.put(0, 0, 1, 0));
        CHECK.same("items ever", x.state(2), 100);
        CHECK.same("items living", x.state(3), 93);
        CHECK.same("the last one's value", x.peek(99), 99);
    }

    private static void promise8WhatIsDerived() {
        ConsentRegister x = register();
        x.put(1, 1, 40, 9);
        x.put(2, 0, 2, 5);
        CHECK.same("copy", x.derive(0, 0, -5), 2);
        item(x, 2, 1, 9, 2, 40);
        CHECK.same("copy, b is no item", x.derive(0, 1, Integer.MAX_VALUE), 3);
        item(x, 3, 0, 5, 4, 2);
        CHECK.same("copy, b is a", x.derive(0, 1, 1), 4);
        item(x, 4, 0, 5, 4, 2);
        CHECK.same("sum", x.derive(1, 0, 1), 5);
        item(x, 5, 1, 9, 6, 42);
        CHECK.same("sum the other way", x.derive(1, 1, 0), 6);
        item(x, 6, 0, 9, 6, 42);
        CHECK.same("flag of the greater first", x.derive(2, 0, 1), 7);
        item(x, 7, 1, 9, 6, 1);
        CHECK.same("flag of the lesser first", x.derive(2, 1, 0), 8);
        item(x, 8, 0, 9, 6, 0);
        CHECK.same("flag of equal ones", x.derive(2, 0, 2), 9);
        item(x, 9, 1, 9, 2, 0);
        CHECK.same("the copy of a copy's sum", x.derive(0, 5, 0), 10);
        item(x, 10, 1, 9, 6, 42);
        // b is not looked at, so a copy is not derived from it.
        CHECK.same("from item 1 straight", x.look(1, 4), 6);
    }

    private static void promise8Refusals() {
        ConsentRegister x = register();
        x.put(0, 0, 1, 0);
        x.put(1, 0, 1, 0);
        for (int how : new int[] {-1, 3, Integer.MIN_VALUE, Integer.MAX_VALUE}) {
            CHECK.refuses("derive how " + how, Check.ARGUMENT, () -> x.derive(how, 0, 1));
            CHECK.refuses("derive how " + how + " of none", Check.ARGUMENT, () -> x.derive(how, 7, 8));
        }
        for (int how = 1; how <= 2; how++) {
            int h = how;
            CHECK.refuses("one number twice", Check.ARGUMENT, () -> x.derive(h, 0, 0));
            CHECK.refuses("one number twice that does not live", Check.ARGUMENT, () -> x.derive(h, 9, 9));
            CHECK.refuses("no first", Check.MISSING, () -> x.derive(h, 2, 0));
            CHECK.refuses("no second", Check.MISSING, () -> x.derive(h, 0, 2));
            CHECK.refuses("a negative second", Check.MISSING, () -> x.derive(h, 0, -1));
        }
        for (int a : new int[] {-1, 2, 100, Integer.MIN_VALUE, Integer.MAX_VALUE}) {
            CHECK.refuses("copy of " + a, Check.MISSING, () -> x.derive(0, a, 0));
        }
        x.erase(1, 0);
        CHECK.refuses("copy of an erased one", Check.MISSING, () -> x.derive(0, 1, 0));
        CHECK.refuses("sum with an erased one", Check.MISSING, () -> x.derive(1, 0, 1));
        CHECK.same("nothing was derived", x.state(2), 2);
    }

    private static void promise8Limit() {
        ConsentRegister x = register();
        x.put(0, 0, 7, 0);
        for (int i = 1; i < 100; i++) {
            CHECK.same("copy " + i, x.derive(0, i - 1, 0), i);
        }
        CHECK.same("through the chain", x.peek(99), 7);
        CHECK.refuses("a 101st item", Check.STATE, () -> x.derive(0, 0, 0));
        CHECK.refuses("a 101st item of none", Check.MISSING, () -> x.derive(0, 100, 0));
        CHECK.refuses("a 101st item in no way", Check.ARGUMENT, () -> x.derive(3, 0, 1));
        CHECK.same("the whole chain goes", x.erase(0, 0), 100);
        CHECK.same("none lives", x.state(3), 0);
    }

    private static void promise8ValuesFollow() {
        ConsentRegister x = register();
        x.put(1, 0, 100, 0);
        x.put(2, 0, 30, 4);
        x.put(3, 0, 50, 0);
        x.derive(1, 0, 1);
        x.derive(2, 3, 2);
        x.derive(0, 3, 0);
        x.derive(1, 3, 5);
        CHECK.same("sum", x.peek(3), 130);
        CHECK.same("flag", x.peek(4), 1);
        CHECK.same("sum of sum and copy", x.peek(6), 260);
        CHECK.same("one is erased", x.erase(1, 0), 1);
        CHECK.same("the sum of those that live", x.peek(3), 30);
        CHECK.same("the flag follows", x.peek(4), 0);
        CHECK.same("the copy follows", x.peek(5), 30);
        CHECK.same("the sum of these follows", x.peek(6), 60);
        item(x, 3, 0, 4, 6, 30);
        CHECK.same("persons as they were then", x.held(1, 0), 3);
        x.derive(0, 3, 0);
        item(x, 7, 0, 4, 6, 30);
    }

    private static void promise8SumsRunOver() {
        ConsentRegister x = register();
        x.put(0, 0, Integer.MAX_VALUE, 0);
        x.put(0, 0, 1, 0);
        long before = Integer.MAX_VALUE;
        long latest = 1;
        for (int i = 2; i < 100; i++) {
            x.derive(1, i - 2, i - 1);
            long next = before + latest;
            before = latest;
            latest = next;
            CHECK.same("sum " + i, x.peek(i), next);
        }
    }

    private static void promise18Peek() {
        ConsentRegister x = register();
        x.put(0, 0, -8, 0);
        CHECK.same("peek", x.peek(0), -8);
        for (int item : new int[] {-1, 1, 99, 100, Integer.MIN_VALUE, Integer.MAX_VALUE}) {
            CHECK.same("peek(" + item + ")", x.peek(item), 0);
        }
        x.erase(0, 0);
        CHECK.same("peek at an erased one", x.peek(0), 0);
        CHECK.same("peek is no use", x.state(4), 0);
        CHECK.same("peek has no ground", x.why(), -1);
    }

    private static void promise19Look() {
        ConsentRegister x = register();
        x.put(3, 1, 5, 8);
        x.put(4, 1, 5, 8);
        CHECK.same("none derived", x.look(0, 4), 0);
        x.derive(0, 0, 0);
        x.derive(1, 0, 1);
        x.derive(2, 1, 0);
        x.derive(0, 2, 0);
        CHECK.same("derived straight, not through another one", x.look(0, 4), 3);
        CHECK.same("derived from the copy", x.look(2, 4), 1);
        CHECK.same("derived from the second", x.look(1, 4), 2);
        for (int what : new int[] {-1, 5, Integer.MIN_VALUE, Integer.MAX_VALUE}) {
            CHECK.same("look(0, " + what + ")", x.look(0, what), -1);
        }
        for (int what = -1; what <= 5; what++) {
            CHECK.same("look at a negative one", x.look(-1, what), -1);
            CHECK.same("look at one that never was", x.look(6, what), -1);
            CHECK.same("look at one that can't be", x.look(Integer.MAX_VALUE, what), -1);
        }
        CHECK.same("erase", x.erase(4, 0), 2);
        for (int what = 0; what <= 4; what++) {
            CHECK.same("look at an erased one", x.look(1, what), -1);
        }
        CHECK.same("those that live only", x.look(0, 4), 2);
    }

    private static void promise19Due() {
        ConsentRegister x = register();
        x.put(3, 1, 5, 50);
        x.derive(0, 0, 0);
        CHECK.same("no event", x.look(0, 3), -1);
        x.event(3, 1, 49);
        CHECK.same("an event before its day", x.look(0, 3), -1);
        x.event(4, 1, 60);
        CHECK.same("another person's", x.look(0, 3), -1);
        x.event(3, 0, 60);
        CHECK.same("another kind's", x.look(0, 3), -1);
        x.event(3, 1, 50);
        CHECK.same("an event on its day", x.look(0, 3), 70);
        x.event(3, 1, 6944);
        CHECK.same("the latest day", x.look(0, 3), 6964);
        x.event(3, 1, 55);
        CHECK.same("the latest, not the one entered last", x.look(0, 3), 6964);
        CHECK.same("a derived one is not due", x.look(1, 3), -1);
    }
}
