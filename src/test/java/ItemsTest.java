/** Promises 7, 8, 18 and 19, and the terms behind them: items that are put or derived, their values and due days. */
public final class ItemsTest {
    private static final Check CHECK = new Check();
    private static final int LOW = Integer.MIN_VALUE;
    private static final int HIGH = Integer.MAX_VALUE;

    public static void main(String[] args) {
        termsPersons();
        termsNumbersNeverGivenTwice();
        termsLivesUntilErased();
        promise7Number();
        promise7ValueOfAnySize();
        promise7Days();
        promise7NoSuchPersonOrKind();
        promise7ThereWere100();
        termsCopy();
        termsSum();
        termsFlag();
        termsKindOfTheFirst();
        termsLaterDay();
        termsAllPersons();
        termsValueFollows();
        termsSixtyFourBits();
        termsSumsRunOverBelow();
        promise8Number();
        promise8SecondOfACopyIsNotLookedAt();
        promise8HowIsNone();
        promise8OneNumberTwice();
        promise8InputDoesNotLive();
        promise8ThereWere100();
        promise18Peek();
        promise18NotLiving();
        promise19KindDayPersons();
        promise19DerivedStraight();
        promise19NotLiving();
        promise19Others();
        promise18And19BesideTheLastOf100();
        termsDueFromTheLatestEvent();
        termsDueNotBeforeItsOwnDay();
        termsDueOfItsPersonAndKind();
        promise19NotDue();
        CHECK.end();
    }

    /** Kinds 0 (10 days) and 1 (20 days). */
    private static ConsentRegister register() {
        ConsentRegister x = new ConsentRegister();
        x.kind(10);
        x.kind(20);
        return x;
    }

    /** Items 0 and 1 of persons 1 and 2, kinds 1 and 0, days 9 and 5: 40 and 2. */
    private static ConsentRegister withTwo() {
        ConsentRegister x = register();
        x.put(1, 1, 40, 9);
        x.put(2, 0, 2, 5);
        return x;
    }

    private static void termsPersons() {
        CHECK.says("Terms", "There are PERSONS 0 to 15");
        for (int person = 0; person <= 15; person++) {
            ConsentRegister x = register();
            x.put(person, 0, 1, 0);
            CHECK.same("its bit", x.look(0, 2), 1 << person);
            CHECK.same("its first item", x.held(person, 0), 0);
            CHECK.same("consent", x.consent(person, 0, true, 0), 1);
            CHECK.same("contract", x.contract(person, 0, 0, 0), 1);
            CHECK.same("event", x.event(person, 0, 0), 1);
            CHECK.same("use", x.use(0, 0, 0), 1);
            CHECK.same("hold", x.hold(person, 0, 1), 0);
            CHECK.same("erase", x.erase(person, 0), 1);
        }
    }

    private static void termsNumbersNeverGivenTwice() {
        CHECK.says("Terms", "ITEMS by numbers from 0 on, never given twice");
        ConsentRegister x = withTwo();
        CHECK.same("the third", x.derive(0, 1, 0), 2);
        CHECK.same("erase the newest", x.erase(2, 0), 2);
        CHECK.same("put after that", x.put(2, 0, 3, 0), 3);
        CHECK.same("derived after that", x.derive(0, 3, 0), 4);
        CHECK.same("erase all of them", x.erase(1, 0) + x.erase(2, 0), 3);
        CHECK.same("none lives", x.state(3), 0);
        CHECK.same("put after that", x.put(2, 0, 3, 0), 5);
        CHECK.same("an erased one stays so", x.peek(3), 0);
    }

    private static void termsLivesUntilErased() {
        CHECK.says("Terms", "LIVES until it is erased");
        ConsentRegister x = withTwo();
        x.event(1, 1, 9);
        CHECK.same("when it is due it lives", x.look(0, 3), 29);
        CHECK.refuses("when its use was refused it lives", Check.STATE, () -> x.use(0, 0, 10_000_000));
        CHECK.same("how many live", x.state(3), 2);
        CHECK.same("until it is swept", x.sweep(29), 1);
        CHECK.same("how many live", x.state(3), 1);
    }

    private static void promise7Number() {
        CHECK.says("Promise 7", "An item with a value: its number.");
        ConsentRegister x = register();
        CHECK.same("put", x.put(3, 1, 77, 6), 0);
        CHECK.same("the same again", x.put(3, 1, 77, 6), 1);
        CHECK.same("items ever", x.state(2), 2);
        CHECK.same("items living", x.state(3), 2);
        CHECK.same("its value", x.peek(1), 77);
        CHECK.says("Terms", "An item that was PUT has one person and a value.");
        CHECK.same("its one person", x.look(1, 2), 8);
    }

    private static void promise7ValueOfAnySize() {
        CHECK.says("Promise 7", "An item with a value: its number.");
        ConsentRegister x = register();
        int[] values = {LOW, LOW + 1, -1, 0, 1, HIGH - 1, HIGH};
        for (int i = 0; i < values.length; i++) {
            CHECK.same("put " + values[i], x.put(0, 0, values[i], 0), i);
            CHECK.same("its value", x.peek(i), values[i]);
        }
    }

    private static void promise7Days() {
        CHECK.says("Promise 7", "Days are 0 to 6,944.");
        ConsentRegister x = register();
        CHECK.same("the first day", x.put(0, 0, 1, 0), 0);
        CHECK.same("the last day", x.put(0, 0, 1, 6944), 1);
        CHECK.same("its day", x.look(0, 1), 0);
        CHECK.same("its day", x.look(1, 1), 6944);
        CHECK.says("Promise 7", "or the day is not so");
        for (int day : new int[] {-1, 6945, LOW, HIGH}) {
            CHECK.refuses("put on day " + day, Check.ARGUMENT, () -> x.put(0, 0, 1, day));
        }
        CHECK.same("none of these was put", x.state(2), 2);
    }

    private static void promise7NoSuchPersonOrKind() {
        CHECK.says("Promise 7", "there is no such person or kind");
        ConsentRegister x = register();
        for (int person : new int[] {-1, 16, 32, LOW, HIGH}) {
            CHECK.refuses("put of person " + person, Check.ARGUMENT, () -> x.put(person, 0, 1, 0));
        }
        for (int kind : new int[] {-1, 2, 8, 100, LOW, HIGH}) {
            CHECK.refuses("put of kind " + kind, Check.ARGUMENT, () -> x.put(0, kind, 1, 0));
        }
        CHECK.same("the last ones that are", x.put(15, 1, 1, 0), 0);
    }

    private static void promise7ThereWere100() {
        CHECK.says("Promise 7", "IllegalStateException: there were 100.");
        ConsentRegister x = register();
        for (int i = 0; i < 100; i++) {
            CHECK.same("put " + i, x.put(i % 16, 0, i, 0), i);
        }
        CHECK.refuses("a 101st", Check.STATE, () -> x.put(0, 0, 1, 0));
        CHECK.same("erase seven", x.erase(0, 0), 7);
        CHECK.refuses("erased ones were, too", Check.STATE, () -> x.put(0, 0, 1, 0));
        CHECK.same("items ever", x.state(2), 100);
        CHECK.same("items living", x.state(3), 93);
        CHECK.same("the last one's value", x.peek(99), 99);
    }

    private static void promise18And19BesideTheLastOf100() {
        CHECK.says("Promise 19", "-1 when it doesn't live");
        ConsentRegister x = register();
        for (int i = 0; i < 100; i++) {
            x.put(0, 1, i + 1, 6);
        }
        int[] last = {1, 6, 1, -1, 0};
        for (int what = 0; what <= 4; what++) {
            CHECK.same("look(99, " + what + ")", x.look(99, what), last[what]);
            CHECK.same("look(100, " + what + ")", x.look(100, what), -1);
            CHECK.same("look(101, " + what + ")", x.look(101, what), -1);
        }
        CHECK.says("Promise 18", "0 when it doesn't live");
        CHECK.same("peek(99)", x.peek(99), 100);
        CHECK.same("peek(100)", x.peek(100), 0);
        CHECK.same("peek(101)", x.peek(101), 0);
        CHECK.says("Promise 8", "NoSuchElementException: an input does not live.");
        for (int how = 0; how <= 2; how++) {
            int h = how;
            CHECK.refuses("derive(" + h + ", 100, 99)", Check.MISSING, () -> x.derive(h, 100, 99));
        }
        CHECK.refuses("derive(1, 99, 100)", Check.MISSING, () -> x.derive(1, 99, 100));
        CHECK.says("Promise 12", "NoSuchElementException: the item does not live.");
        CHECK.refuses("use(100, 0, 0)", Check.MISSING, () -> x.use(100, 0, 0));
        CHECK.refuses("use(101, 0, 0)", Check.MISSING, () -> x.use(101, 0, 0));
    }

    private static void termsCopy() {
        CHECK.says("Terms", "a COPY of one (its value is that one's)");
        ConsentRegister x = withTwo();
        CHECK.same("copy", x.derive(0, 0, 1), 2);
        CHECK.same("copy of a copy", x.derive(0, 2, 1), 3);
        CHECK.same("its value", x.peek(2), 40);
        CHECK.same("its value", x.peek(3), 40);
    }

    private static void termsSum() {
        CHECK.says("Terms", "a SUM of two different ones (its value is the sum of those that live)");
        ConsentRegister x = withTwo();
        x.put(3, 0, -7, 0);
        x.derive(1, 0, 1);
        x.derive(1, 2, 1);
        x.derive(1, 3, 0);
        CHECK.same("sum", x.peek(3), 42);
        CHECK.same("sum below 0", x.peek(4), -5);
        CHECK.same("sum with a sum", x.peek(5), 82);
        CHECK.same("the first input goes", x.erase(1, 0), 1);
        CHECK.same("the sum of the second", x.peek(3), 2);
        CHECK.same("the sum with that sum", x.peek(5), 2);
        ConsentRegister y = withTwo();
        y.derive(1, 0, 1);
        CHECK.same("the second input goes", y.erase(2, 0), 1);
        CHECK.same("the sum of the first", y.peek(2), 40);
    }

    private static void termsFlag() {
        CHECK.says("Terms", "a FLAG of two different ones (1 when the first one's value is greater, else 0)");
        ConsentRegister x = register();
        int[] values = {5, 5, 6, -6, LOW, HIGH};
        for (int value : values) {
            x.put(0, 0, value, 0);
        }
        int item = values.length;
        for (int a = 0; a < values.length; a++) {
            for (int b = 0; b < values.length; b++) {
                if (a != b) {
                    CHECK.same("flag", x.derive(2, a, b), item);
                    CHECK.same("flag of " + values[a] + " and " + values[b], x.peek(item), values[a] > values[b] ? 1 : 0);
                    item++;
                }
            }
        }
    }

    private static void termsKindOfTheFirst() {
        CHECK.says("Terms", "Its kind is that of the first input");
        ConsentRegister x = withTwo();
        for (int how = 1; how <= 2; how++) {
            CHECK.same("kind", x.look(x.derive(how, 0, 1), 0), 1);
            CHECK.same("kind the other way", x.look(x.derive(how, 1, 0), 0), 0);
        }
        CHECK.same("kind of a copy", x.look(x.derive(0, 0, 1), 0), 1);
        // The first input's kind stays its own when that input is erased.
        ConsentRegister y = withTwo();
        y.derive(1, 0, 1);
        y.derive(0, 2, 0);
        CHECK.same("the first input goes", y.erase(1, 0), 1);
        CHECK.same("the sum's kind", y.look(2, 0), 1);
        CHECK.same("its copy's kind", y.look(3, 0), 1);
        CHECK.same("a new copy's kind", y.look(y.derive(0, 2, 0), 0), 1);
    }

    private static void termsLaterDay() {
        CHECK.says("Terms", "its day the later one of theirs");
        ConsentRegister x = withTwo();
        for (int how = 1; how <= 2; how++) {
            CHECK.same("the first one's", x.look(x.derive(how, 0, 1), 1), 9);
            CHECK.same("the second one's", x.look(x.derive(how, 1, 0), 1), 9);
        }
        CHECK.same("of a copy", x.look(x.derive(0, 1, 0), 1), 5);
        x.put(0, 0, 1, 0);
        x.put(0, 0, 1, 0);
        CHECK.same("both on the first day", x.look(x.derive(1, 7, 8), 1), 0);
        CHECK.same("a copy on the first day", x.look(x.derive(0, 7, 8), 1), 0);
        // The later day stays its own when the input of that day is erased.
        ConsentRegister y = withTwo();
        y.derive(1, 1, 0);
        y.derive(0, 2, 0);
        CHECK.same("the later input goes", y.erase(1, 0), 1);
        CHECK.same("the sum's day", y.look(2, 1), 9);
        CHECK.same("its copy's day", y.look(3, 1), 9);
        CHECK.same("a new sum's day", y.look(y.derive(1, 2, 1), 1), 9);
    }

    private static void termsAllPersons() {
        CHECK.says("Terms", "its persons are all of theirs (as they were then)");
        ConsentRegister x = register();
        for (int person = 0; person < 16; person++) {
            x.put(person, 0, 1, 0);
        }
        x.derive(1, 0, 1);
        for (int person = 2; person < 16; person++) {
            x.derive(1, 14 + person, person);
        }
        CHECK.same("two persons", x.look(16, 2), 3);
        CHECK.same("sixteen persons", x.look(30, 2), 65_535);
        CHECK.same("a flag's", x.look(x.derive(2, 3, 5), 2), 40);
        CHECK.same("of one person twice", x.look(x.derive(1, 16, 0), 2), 3);
        x.erase(0, 0);
        CHECK.same("as they were then", x.look(16, 2), 3);
        CHECK.same("and the copy's of it, as they are", x.look(x.derive(0, 16, 0), 2), 3);
        CHECK.same("held still by that person", x.held(0, 0), 16);
    }

    private static void termsValueFollows() {
        CHECK.says("Terms", "Its value follows theirs.");
        ConsentRegister x = register();
        x.put(1, 0, 100, 0);
        x.put(2, 0, 30, 4);
        x.put(3, 0, 50, 0);
        x.derive(1, 0, 1);
        x.derive(2, 3, 2);
        x.derive(0, 3, 0);
        x.derive(1, 3, 5);
        x.derive(2, 2, 5);
        CHECK.same("flag", x.peek(4), 1);
        CHECK.same("copy", x.peek(5), 130);
        CHECK.same("sum of sum and copy", x.peek(6), 260);
        CHECK.same("flag the other way", x.peek(7), 0);
        CHECK.same("one is erased", x.erase(1, 0), 1);
        CHECK.same("the flag follows", x.peek(4), 0);
        CHECK.same("the copy follows", x.peek(5), 30);
        CHECK.same("the sum of these follows", x.peek(6), 60);
        CHECK.same("the flag of the copy follows", x.peek(7), 1);
    }

    private static int twice(ConsentRegister x, int item) {
        return x.derive(1, item, x.derive(0, item, 0));
    }

    private static void termsSixtyFourBits() {
        CHECK.says("Terms", "(Values have 64 bits; sums run over.)");
        ConsentRegister x = register();
        x.put(0, 0, 1 << 30, 0);
        int item = 0;
        long want = 1L << 30;
        for (int i = 31; i <= 62; i++) {
            item = twice(x, item);
            want = 2 * want;
            CHECK.same("2 to the " + i, x.peek(item), want);
        }
        CHECK.same("a copy of 2 to the 62", x.peek(x.derive(0, item, 0)), 1L << 62);
        CHECK.same("a flag of 2 to the 62", x.peek(x.derive(2, item, 0)), 1);
        x.consent(0, 0, true, 0);
        CHECK.same("a use of 2 to the 62", x.use(item, 0, 0), 1L << 62);
        int over = twice(x, item);
        CHECK.same("2 to the 63 runs over", x.peek(over), Long.MIN_VALUE);
        CHECK.same("a flag of it", x.peek(x.derive(2, over, 0)), 0);
        CHECK.same("a flag of it the other way", x.peek(x.derive(2, 0, over)), 1);
        CHECK.same("2 to the 64 runs over", x.peek(twice(x, over)), 0);
    }

    private static void termsSumsRunOverBelow() {
        CHECK.says("Terms", "(Values have 64 bits; sums run over.)");
        ConsentRegister x = register();
        x.put(0, 0, LOW, 0);
        x.put(1, 0, -1, 0);
        int item = 0;
        for (int i = 32; i <= 63; i++) {
            item = twice(x, item);
        }
        CHECK.same("the least value", x.peek(item), Long.MIN_VALUE);
        int sum = x.derive(1, item, 1);
        CHECK.same("one less is the greatest", x.peek(sum), Long.MAX_VALUE);
        CHECK.same("a flag of the greatest and the least", x.peek(x.derive(2, sum, item)), 1);
        CHECK.same("an input goes, and the flag follows", x.erase(1, 0), 1);
        CHECK.same("the sum", x.peek(sum), Long.MIN_VALUE);
        CHECK.same("the flag of equal ones", x.peek(sum + 1), 0);
    }

    private static void promise8Number() {
        CHECK.says("Promise 8", "a SUM (1) or a FLAG (2): its number");
        ConsentRegister x = withTwo();
        CHECK.same("copy", x.derive(0, 1, 0), 2);
        CHECK.same("sum", x.derive(1, 0, 1), 3);
        CHECK.same("flag", x.derive(2, 0, 1), 4);
        CHECK.same("0 is the copy", x.peek(2), 2);
        CHECK.same("1 is the sum", x.peek(3), 42);
        CHECK.same("2 is the flag", x.peek(4), 1);
        CHECK.same("items ever", x.state(2), 5);
        CHECK.same("items living", x.state(3), 5);
    }

    private static void promise8SecondOfACopyIsNotLookedAt() {
        CHECK.says("Promise 8", "A COPY (how is 0; b is not looked at)");
        ConsentRegister x = withTwo();
        x.put(3, 0, 1, 0);
        x.erase(3, 0);
        int[] seconds = {0, 1, 2, 3, 99, 100, -1, LOW, HIGH};
        for (int i = 0; i < seconds.length; i++) {
            int second = seconds[i];
            CHECK.same("copy, b is " + second, x.derive(0, 1, second), 3 + i);
            CHECK.same("its value", x.peek(3 + i), 2);
            CHECK.same("its day", x.look(3 + i, 1), 5);
            CHECK.same("its persons", x.look(3 + i, 2), 4);
        }
        CHECK.same("none is derived from b", x.look(0, 4), 0);
        CHECK.same("all are derived from a", x.look(1, 4), seconds.length);
        CHECK.same("and do not go with b", x.erase(1, 0), 1);
        CHECK.same("but with a", x.erase(2, 0), 1 + seconds.length);
    }

    private static void promise8HowIsNone() {
        CHECK.says("Promise 8", "how is none");
        ConsentRegister x = withTwo();
        for (int how : new int[] {-1, 3, 4, 256, LOW, HIGH}) {
            CHECK.refuses("derive how " + how, Check.ARGUMENT, () -> x.derive(how, 0, 1));
        }
        CHECK.same("nothing was derived", x.state(2), 2);
    }

    private static void promise8OneNumberTwice() {
        CHECK.says("Promise 8", "or both inputs of 1, 2 are one number");
        ConsentRegister x = withTwo();
        for (int how = 1; how <= 2; how++) {
            int h = how;
            for (int item : new int[] {0, 1, 2, -1, 100, LOW, HIGH}) {
                CHECK.refuses("derive(" + h + ", " + item + ", " + item + ")", Check.ARGUMENT, () -> x.derive(h, item, item));
            }
        }
        CHECK.same("nothing was derived", x.state(2), 2);
        CHECK.same("a copy may have one number twice", x.derive(0, 1, 1), 2);
    }

    private static void promise8InputDoesNotLive() {
        CHECK.says("Promise 8", "NoSuchElementException: an input does not live.");
        ConsentRegister x = withTwo();
        x.put(3, 0, 1, 0);
        x.erase(3, 0);
        for (int none : new int[] {2, 3, -1, 99, 100, LOW, HIGH}) {
            CHECK.refuses("copy of " + none, Check.MISSING, () -> x.derive(0, none, 0));
            for (int how = 1; how <= 2; how++) {
                int h = how;
                CHECK.refuses("how " + h + ", first " + none, Check.MISSING, () -> x.derive(h, none, 0));
                CHECK.refuses("how " + h + ", second " + none, Check.MISSING, () -> x.derive(h, 0, none));
            }
        }
        CHECK.refuses("neither", Check.MISSING, () -> x.derive(1, 2, 3));
        CHECK.same("nothing was derived", x.state(2), 3);
        CHECK.says("Terms", "one or two items that live then");
        CHECK.same("of those that live", x.derive(1, 0, 1), 3);
    }

    private static void promise8ThereWere100() {
        CHECK.says("Promise 8", "IllegalStateException: there were 100.");
        ConsentRegister x = register();
        x.put(0, 0, 7, 0);
        x.put(1, 0, 0, 0);
        for (int i = 2; i < 100; i++) {
            CHECK.same("derived " + i, x.derive(i % 2, i == 2 ? 0 : i - 1, 1), i);
        }
        CHECK.same("through the chain", x.peek(99), 7);
        for (int how = 0; how <= 2; how++) {
            int h = how;
            CHECK.refuses("a 101st, how " + h, Check.STATE, () -> x.derive(h, 0, 1));
        }
        CHECK.same("the whole chain goes", x.erase(1, 0) + x.erase(0, 0), 100);
        CHECK.same("none lives", x.state(3), 0);
        CHECK.refuses("erased ones were, too", Check.STATE, () -> x.put(0, 0, 1, 0));
    }

    private static void promise18Peek() {
        CHECK.says("Promise 18", "An item's word: its value");
        ConsentRegister x = withTwo();
        x.derive(1, 0, 1);
        CHECK.same("of one that was put", x.peek(0), 40);
        CHECK.same("of a derived one", x.peek(2), 42);
        CHECK.same("it is no use", x.state(4), 0);
        CHECK.same("it has no ground", x.why(), -1);
    }

    private static void promise18NotLiving() {
        CHECK.says("Promise 18", "0 when it doesn't live");
        ConsentRegister x = withTwo();
        x.derive(0, 0, 0);
        for (int item : new int[] {-1, 3, 99, 100, LOW, HIGH}) {
            CHECK.same("peek(" + item + ")", x.peek(item), 0);
        }
        x.erase(1, 0);
        CHECK.says("Terms", "Erased items' words are 0.");
        CHECK.same("an erased one", x.peek(0), 0);
        CHECK.same("an erased copy", x.peek(2), 0);
        CHECK.same("another one", x.peek(1), 2);
    }

    private static void promise19KindDayPersons() {
        CHECK.says("Promise 19", "0 its kind, 1 its day, 2 its persons as bits");
        ConsentRegister x = register();
        x.put(0, 0, 5, 0);
        x.put(15, 1, 5, 6944);
        int[][] want = {{0, 0, 1}, {1, 6944, 32_768}};
        for (int item = 0; item < 2; item++) {
            for (int what = 0; what < 3; what++) {
                CHECK.same("look(" + item + ", " + what + ")", x.look(item, what), want[item][what]);
            }
        }
    }

    private static void promise19DerivedStraight() {
        CHECK.says("Promise 19", "4 how many living items are derived from it straight");
        ConsentRegister x = register();
        x.put(3, 1, 5, 8);
        x.put(4, 1, 5, 8);
        CHECK.same("none", x.look(0, 4), 0);
        x.derive(0, 0, 0);
        x.derive(1, 0, 1);
        x.derive(2, 1, 0);
        x.derive(0, 2, 0);
        x.derive(1, 2, 0);
        CHECK.same("not through another one", x.look(0, 4), 4);
        CHECK.same("from the copy", x.look(2, 4), 2);
        CHECK.same("as the second and as the first", x.look(1, 4), 2);
        CHECK.same("from the newest", x.look(6, 4), 0);
        x.put(3, 1, 5, 8);
        x.derive(1, 1, 7);
        CHECK.same("not from the inputs beside it", x.look(0, 4), 4);
        CHECK.same("from the one beside it", x.look(7, 4), 1);
        CHECK.same("erase an item with its flag", x.erase(4, 0), 2);
        CHECK.same("those that live only", x.look(0, 4), 3);
    }

    private static void promise19NotLiving() {
        CHECK.says("Promise 19", "-1 when it doesn't live");
        ConsentRegister x = withTwo();
        x.event(2, 0, 5);
        x.erase(2, 0);
        for (int what = -1; what <= 5; what++) {
            for (int item : new int[] {1, -1, 2, 99, 100, LOW, HIGH}) {
                CHECK.same("look(" + item + ", " + what + ")", x.look(item, what), -1);
            }
        }
    }

    private static void promise19Others() {
        CHECK.says("Promise 19", "or for others");
        ConsentRegister x = withTwo();
        for (int what : new int[] {-1, 5, 6, LOW, HIGH}) {
            CHECK.same("look(0, " + what + ")", x.look(0, what), -1);
        }
    }

    private static void termsDueFromTheLatestEvent() {
        CHECK.says("Terms", "is due from the latest event of its person and kind");
        ConsentRegister x = register();
        x.put(3, 1, 5, 50);
        x.event(3, 1, 60);
        CHECK.same("RETENTION days on", x.look(0, 3), 80);
        x.event(3, 1, 55);
        CHECK.same("the latest, not the one entered last", x.look(0, 3), 80);
        x.event(3, 1, 6944);
        CHECK.same("an event on the last day", x.look(0, 3), 6964);
        x.put(3, 1, 5, 60);
        CHECK.same("an item that was put after it", x.look(1, 3), 6964);
    }

    private static void termsDueNotBeforeItsOwnDay() {
        CHECK.says("Terms", "whose day is not before its own");
        ConsentRegister x = register();
        x.put(3, 1, 5, 50);
        x.event(3, 1, 49);
        CHECK.same("the day before", x.look(0, 3), -1);
        x.event(3, 1, 50);
        CHECK.same("on its day", x.look(0, 3), 70);
        x.put(3, 1, 5, 51);
        CHECK.same("an item of the day after", x.look(1, 3), -1);
        x.put(3, 0, 5, 0);
        x.event(3, 0, 0);
        CHECK.same("both on the first day", x.look(2, 3), 10);
    }

    private static void termsDueOfItsPersonAndKind() {
        CHECK.says("Terms", "is due from the latest event of its person and kind");
        ConsentRegister x = register();
        x.put(3, 1, 5, 50);
        x.event(4, 1, 60);
        CHECK.same("another person's", x.look(0, 3), -1);
        x.event(3, 0, 60);
        CHECK.same("another kind's", x.look(0, 3), -1);
        x.event(3, 1, 60);
        CHECK.same("its own", x.look(0, 3), 80);
    }

    private static void promise19NotDue() {
        CHECK.says("Promise 19", "3 the day from which it is due (-1: it isn't)");
        ConsentRegister x = register();
        x.put(3, 1, 5, 50);
        x.derive(0, 0, 0);
        CHECK.says("Terms", "without such an event it is not");
        CHECK.same("no event", x.look(0, 3), -1);
        x.put(0, 0, 5, 0);
        CHECK.same("no event of the first person and kind on the first day", x.look(2, 3), -1);
        x.event(3, 1, 50);
        CHECK.same("an event", x.look(0, 3), 70);
        CHECK.same("an event of others", x.look(2, 3), -1);
        CHECK.says("Terms", "DUE: an item that was put");
        CHECK.same("a derived one is not due", x.look(1, 3), -1);
    }
}
