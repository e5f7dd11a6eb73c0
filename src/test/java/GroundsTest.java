/** The grounds of the document's terms: at or above, the day of a minute, consent, contract, duty and hold. */
public final class GroundsTest {
    private static final Check CHECK = new Check();
    private static final int DAY = 1440;

    public static void main(String[] args) {
        atOrAboveItself();
        atOrAboveItsParent();
        atOrAboveDownAChain();
        dayOfAMinute();
        consentOfEachPerson();
        consentOfSixteenPersons();
        consentNotLater();
        consentAtTheNearest();
        consentOfTheLatestMinute();
        consentEnteredLast();
        consentSaysYes();
        contractForSomePerson();
        contractAtOrAbove();
        contractFromTo();
        contractOfOneSpan();
        contractOfAnySpan();
        dutyOfItsKindForThatPurpose();
        dutyDays();
        dutyOfADerivedOne();
        dutyOfOneDuty();
        dutyOfAnyDuty();
        holdNamesThePurpose();
        holdOfAnyHold();
        holdOfAPersonOnlyCounts();
        holdOfAPersonOnlyCountsWhateverItNames();
        holdOfAPersonOnlyCountsAmongOthers();
        holdOfAKindLeavesOthers();
        firstGroundThatIs();
        CHECK.end();
    }

    /** Purposes 0 / 1 / 2 in a chain and 3 below the root; kinds 0 and 1; items 0 (person 1) and 1 (person 2) of kind 0, day 10. */
    private static ConsentRegister register() {
        ConsentRegister x = new ConsentRegister();
        x.purpose(0);
        x.purpose(1);
        x.purpose(0);
        x.kind(10);
        x.kind(10);
        x.put(1, 0, 11, 10);
        x.put(2, 0, 22, 10);
        return x;
    }

    private static void ground(ConsentRegister x, int item, int purpose, int minute, int want) {
        String what = "use(" + item + ", " + purpose + ", " + minute + ")";
        if (want == 0) {
            CHECK.refuses(what, Check.STATE, () -> x.use(item, purpose, minute));
        } else {
            CHECK.same(what, x.use(item, purpose, minute), x.peek(item));
        }
        CHECK.same("the ground of " + what, x.why(), want);
    }

    private static void atOrAboveItself() {
        CHECK.says("Terms", "A purpose is AT OR ABOVE another one when it is that");
        for (int purpose = 0; purpose <= 3; purpose++) {
            ConsentRegister x = register();
            x.consent(1, purpose, true, 0);
            x.contract(2, purpose, 0, 10);
            ground(x, 0, purpose, 5, 1);
            ground(x, 1, purpose, 5, 2);
        }
    }

    private static void atOrAboveItsParent() {
        CHECK.says("Terms", "or at or above its parent");
        boolean[][] above = {
            {true, true, true, true}, {false, true, true, false}, {false, false, true, false}, {false, false, false, true}};
        for (int upper = 0; upper <= 3; upper++) {
            ConsentRegister x = register();
            x.consent(1, upper, true, 0);
            x.contract(2, upper, 0, 10);
            for (int purpose = 0; purpose <= 3; purpose++) {
                ground(x, 0, purpose, 5, above[upper][purpose] ? 1 : 0);
                ground(x, 1, purpose, 5, above[upper][purpose] ? 2 : 0);
            }
        }
    }

    private static void atOrAboveDownAChain() {
        CHECK.says("Terms", "or at or above its parent");
        ConsentRegister x = new ConsentRegister();
        for (int i = 0; i < 15; i++) {
            x.purpose(i);
        }
        x.kind(1);
        x.put(1, 0, 11, 0);
        x.put(2, 0, 22, 0);
        x.consent(1, 0, true, 0);
        x.contract(2, 0, 0, 10);
        for (int purpose = 0; purpose < 16; purpose++) {
            ground(x, 0, purpose, 5, 1);
            ground(x, 1, purpose, 5, 2);
        }
        // A star: fifteen below the root, none above another one.
        ConsentRegister y = new ConsentRegister();
        for (int i = 0; i < 15; i++) {
            y.purpose(0);
        }
        y.kind(1);
        y.put(1, 0, 11, 0);
        y.consent(1, 14, true, 0);
        for (int purpose = 0; purpose < 16; purpose++) {
            ground(y, 0, purpose, 5, purpose == 14 ? 1 : 0);
        }
    }

    private static void dayOfAMinute() {
        CHECK.says("Terms", "The day of a minute m is m / 1440.");
        ConsentRegister x = register();
        x.hold(100, 1, 1);
        x.lift(0, 2);
        ground(x, 0, 1, 0, 0);
        ground(x, 0, 1, 1439, 0);
        ground(x, 0, 1, 1440, 4);
        ground(x, 0, 1, 2879, 4);
        ground(x, 0, 1, 2880, 0);
        x.hold(100, 1, 6944);
        ground(x, 0, 1, 9_999_359, 0);
        ground(x, 0, 1, 9_999_360, 4);
        ground(x, 0, 1, 10_000_000, 4);
    }

    private static void consentOfEachPerson() {
        CHECK.says("Terms", "1: CONSENT of each of its persons");
        ConsentRegister x = register();
        x.derive(1, 0, 1);
        x.consent(1, 0, true, 0);
        ground(x, 2, 0, 0, 0);
        x.consent(2, 3, true, 0);
        ground(x, 2, 0, 0, 0);
        ground(x, 2, 3, 0, 1);
        x.consent(2, 0, true, 0);
        ground(x, 2, 0, 0, 1);
        x.consent(1, 2, false, 0);
        ground(x, 2, 2, 0, 0);
        // A person of an erased input still has a word in it.
        x.erase(1, 0);
        ground(x, 2, 2, 0, 0);
        ground(x, 2, 0, 0, 1);
        // Persons 0 and 15 have one, too.
        ConsentRegister y = register();
        y.put(0, 0, 5, 0);
        y.put(15, 0, 6, 0);
        y.derive(1, 2, 3);
        y.consent(0, 0, true, 0);
        ground(y, 4, 0, 0, 0);
        y.consent(15, 0, true, 1);
        ground(y, 4, 0, 0, 0);
        ground(y, 4, 0, 1, 1);
        y.consent(0, 0, false, 2);
        ground(y, 4, 0, 2, 0);
    }

    private static void consentOfSixteenPersons() {
        CHECK.says("Terms", "1: CONSENT of each of its persons");
        ConsentRegister x = register();
        int sum = x.put(0, 0, 1, 0);
        for (int person = 1; person < 16; person++) {
            sum = x.derive(1, sum, x.put(person, 0, 1, 0));
        }
        CHECK.same("its persons", x.look(sum, 2), 65_535);
        for (int person = 0; person < 16; person++) {
            ground(x, sum, 1, 100, 0);
            x.consent(person, 0, true, person);
        }
        ground(x, sum, 1, 100, 1);
        ground(x, sum, 1, 14, 0);
        for (int person = 0; person < 16; person++) {
            x.consent(person, 1, false, 200 + 2 * person);
            ground(x, sum, 1, 200 + 2 * person, 0);
            x.consent(person, 1, true, 201 + 2 * person);
            ground(x, sum, 1, 201 + 2 * person, 1);
        }
    }

    private static void consentNotLater() {
        CHECK.says("Terms", "of all entries of a person that are not later than m");
        ConsentRegister x = register();
        ground(x, 0, 1, 500, 0);
        x.consent(1, 1, true, 500);
        ground(x, 0, 1, 499, 0);
        ground(x, 0, 1, 500, 1);
        ground(x, 0, 1, 501, 1);
        ground(x, 1, 1, 501, 0);
        x.consent(2, 1, true, 10_000_000);
        ground(x, 1, 1, 9_999_999, 0);
        ground(x, 1, 1, 10_000_000, 1);
        x.consent(2, 1, true, 0);
        ground(x, 1, 1, 0, 1);
    }

    private static void consentAtTheNearest() {
        CHECK.says("Terms", "those at the nearest such purpose");
        ConsentRegister x = register();
        x.consent(1, 0, true, 100);
        x.consent(1, 2, false, 50);
        ground(x, 0, 2, 200, 0);
        ground(x, 0, 1, 200, 1);
        x.consent(1, 1, false, 20);
        ground(x, 0, 1, 200, 0);
        x.consent(1, 2, true, 60);
        ground(x, 0, 2, 200, 1);
        ground(x, 0, 2, 55, 0);
        // An entry that is later than m does not make its purpose the nearest one.
        ConsentRegister y = register();
        y.consent(1, 0, true, 10);
        y.consent(1, 2, false, 300);
        y.consent(2, 2, false, 0);
        ground(y, 0, 2, 299, 1);
        ground(y, 0, 2, 300, 0);
    }

    private static void consentOfTheLatestMinute() {
        CHECK.says("Terms", "of these the latest minute's");
        ConsentRegister x = register();
        x.consent(1, 0, true, 100);
        x.consent(1, 0, false, 50);
        ground(x, 0, 0, 100, 1);
        ground(x, 0, 0, 99, 0);
        x.consent(1, 0, false, 99);
        ground(x, 0, 0, 100, 1);
        x.consent(1, 0, false, 101);
        ground(x, 0, 0, 100, 1);
        ground(x, 0, 0, 101, 0);
    }

    private static void consentEnteredLast() {
        CHECK.says("Terms", "of these the one entered last");
        ConsentRegister x = register();
        x.consent(1, 0, true, 100);
        x.consent(1, 0, false, 100);
        ground(x, 0, 0, 100, 0);
        x.consent(1, 0, true, 100);
        ground(x, 0, 0, 100, 1);
        x.consent(1, 0, false, 7);
        x.consent(2, 0, false, 100);
        x.consent(1, 1, false, 100);
        ground(x, 0, 0, 100, 1);
    }

    private static void consentSaysYes() {
        CHECK.says("Terms", "it says yes");
        ConsentRegister x = register();
        ground(x, 0, 0, 5, 0);
        x.consent(1, 0, false, 0);
        ground(x, 0, 0, 5, 0);
        x.consent(1, 0, true, 0);
        ground(x, 0, 0, 5, 1);
    }

    private static void contractForSomePerson() {
        CHECK.says("Terms", "2: CONTRACT: for some person of it");
        ConsentRegister x = register();
        x.derive(1, 0, 1);
        x.contract(2, 1, 100, 200);
        ground(x, 1, 1, 150, 2);
        ground(x, 0, 1, 150, 0);
        ground(x, 2, 1, 150, 2);
        x.consent(2, 1, false, 0);
        ground(x, 2, 1, 150, 2);
        // A person of an erased input is one of it still.
        x.erase(2, 0);
        ground(x, 2, 1, 150, 2);
    }

    private static void contractAtOrAbove() {
        CHECK.says("Terms", "a span for a purpose at or above p");
        ConsentRegister x = register();
        x.contract(1, 1, 100, 200);
        ground(x, 0, 1, 150, 2);
        ground(x, 0, 2, 150, 2);
        ground(x, 0, 0, 150, 0);
        ground(x, 0, 3, 150, 0);
    }

    private static void contractFromTo() {
        CHECK.says("Terms", "with from <= m <= to");
        ConsentRegister x = register();
        x.contract(1, 0, 100, 200);
        ground(x, 0, 0, 99, 0);
        ground(x, 0, 0, 100, 2);
        ground(x, 0, 0, 200, 2);
        ground(x, 0, 0, 201, 0);
        x.contract(1, 0, 300, 300);
        ground(x, 0, 0, 299, 0);
        ground(x, 0, 0, 300, 2);
        ground(x, 0, 0, 301, 0);
        x.contract(1, 0, 0, 0);
        ground(x, 0, 0, 0, 2);
        ground(x, 0, 0, 1, 0);
        x.contract(1, 0, 10_000_000, 10_000_000);
        ground(x, 0, 0, 9_999_999, 0);
        ground(x, 0, 0, 10_000_000, 2);
    }

    /** Person, purpose and time must be one span's: here each span lacks one of them. */
    private static void contractOfOneSpan() {
        CHECK.says("Terms", "a span for a purpose at or above p with from <= m <= to");
        ConsentRegister x = register();
        x.contract(1, 1, 0, 99);
        x.contract(1, 3, 100, 200);
        x.contract(2, 1, 100, 200);
        ground(x, 0, 1, 150, 0);
        ground(x, 0, 2, 150, 0);
        ground(x, 0, 1, 99, 2);
        ground(x, 0, 3, 150, 2);
        ground(x, 1, 1, 150, 2);
        ground(x, 1, 3, 150, 0);
    }

    private static void contractOfAnySpan() {
        CHECK.says("Terms", "for some person of it, a span");
        for (int right = 0; right < 3; right++) {
            ConsentRegister x = register();
            for (int i = 0; i < 3; i++) {
                x.contract(i == right ? 1 : 2, 0, 10 * i, 10 * i + 5);
            }
            for (int i = 0; i < 3; i++) {
                ground(x, 0, 2, 10 * i, i == right ? 2 : 0);
                ground(x, 1, 2, 10 * i + 5, i == right ? 0 : 2);
            }
        }
    }

    private static void dutyOfItsKindForThatPurpose() {
        CHECK.says("Terms", "3: DUTY: of its kind for p");
        ConsentRegister x = register();
        x.put(1, 1, 33, 10);
        x.duty(0, 1, 5);
        ground(x, 0, 1, 12 * DAY, 3);
        ground(x, 1, 1, 12 * DAY, 3);
        ground(x, 2, 1, 12 * DAY, 0);
        ground(x, 0, 0, 12 * DAY, 0);
        ground(x, 0, 2, 12 * DAY, 0);
        ground(x, 0, 3, 12 * DAY, 0);
    }

    private static void dutyDays() {
        CHECK.says("Terms", "its day <= the day of m < its day + the duty's days");
        ConsentRegister x = register();
        x.duty(0, 1, 5);
        ground(x, 0, 1, 10 * DAY - 1, 0);
        ground(x, 0, 1, 10 * DAY, 3);
        ground(x, 0, 1, 15 * DAY - 1, 3);
        ground(x, 0, 1, 15 * DAY, 0);
        ground(x, 0, 1, 16 * DAY, 0);
        ground(x, 0, 1, 10_000_000, 0);
        ground(x, 0, 1, 0, 0);
        x.duty(0, 2, 1);
        ground(x, 0, 2, 10 * DAY - 1, 0);
        ground(x, 0, 2, 10 * DAY, 3);
        ground(x, 0, 2, 11 * DAY - 1, 3);
        ground(x, 0, 2, 11 * DAY, 0);
        x.duty(0, 3, 5000);
        ground(x, 0, 3, 5010 * DAY - 1, 3);
        ground(x, 0, 3, 5010 * DAY, 0);
        // The duty's end lies beyond the last day.
        x.put(1, 0, 9, 6944);
        ground(x, 2, 3, 6944 * DAY - 1, 0);
        ground(x, 2, 3, 10_000_000, 3);
        x.put(1, 0, 9, 0);
        ground(x, 3, 3, 0, 3);
    }

    private static void dutyOfADerivedOne() {
        CHECK.says("Terms", "3: DUTY: of its kind for p");
        ConsentRegister x = register();
        x.put(1, 1, 33, 12);
        x.duty(0, 1, 5);
        x.derive(1, 0, 2);
        x.derive(1, 2, 0);
        ground(x, 3, 1, 12 * DAY - 1, 0);
        ground(x, 3, 1, 12 * DAY, 3);
        ground(x, 3, 1, 17 * DAY - 1, 3);
        ground(x, 3, 1, 17 * DAY, 0);
        ground(x, 4, 1, 12 * DAY, 0);
    }

    /** Kind, purpose and days must be one duty's: here each duty lacks one of them. */
    private static void dutyOfOneDuty() {
        CHECK.says("Terms", "3: DUTY: of its kind for p, its day <= the day of m");
        ConsentRegister x = register();
        x.duty(0, 1, 2);
        x.duty(0, 3, 50);
        x.duty(1, 1, 50);
        ground(x, 0, 1, 12 * DAY, 0);
        ground(x, 0, 1, 12 * DAY - 1, 3);
        ground(x, 0, 3, 12 * DAY, 3);
        x.put(1, 1, 33, 10);
        ground(x, 2, 1, 12 * DAY, 3);
        ground(x, 2, 3, 12 * DAY, 0);
    }

    private static void dutyOfAnyDuty() {
        CHECK.says("Terms", "3: DUTY: of its kind for p");
        for (int longest = 0; longest < 3; longest++) {
            ConsentRegister x = register();
            for (int i = 0; i < 3; i++) {
                x.duty(0, 1, i == longest ? 7 : 3);
            }
            ground(x, 0, 1, 10 * DAY, 3);
            ground(x, 0, 1, 13 * DAY, 3);
            ground(x, 0, 1, 17 * DAY - 1, 3);
            ground(x, 0, 1, 17 * DAY, 0);
        }
    }

    private static void holdNamesThePurpose() {
        CHECK.says("Terms", "4: HOLD: one covers the item on the day of m, and names p.");
        ConsentRegister x = register();
        x.hold(100, 1, 20);
        ground(x, 0, 1, 20 * DAY - 1, 0);
        ground(x, 0, 1, 20 * DAY, 4);
        ground(x, 0, 0, 20 * DAY, 0);
        ground(x, 0, 2, 20 * DAY, 0);
        ground(x, 0, 3, 20 * DAY, 0);
        x.hold(2, 3, 20);
        ground(x, 1, 3, 20 * DAY, 4);
        ground(x, 0, 3, 20 * DAY, 0);
    }

    private static void holdOfAnyHold() {
        CHECK.says("Terms", "4: HOLD: one covers the item on the day of m, and names p.");
        int[] of = {1, 100, 2, 101};
        for (int naming = 0; naming < of.length; naming++) {
            ConsentRegister x = register();
            for (int i = 0; i < of.length; i++) {
                x.hold(of[i], i == naming ? 1 : 3, 0);
            }
            ground(x, 0, 1, 0, naming < 2 ? 4 : 0);
            ground(x, 1, 1, 0, naming == 1 || naming == 2 ? 4 : 0);
            ground(x, 0, 3, 0, 4);
        }
    }

    private static void holdOfAPersonOnlyCountsWhateverItNames() {
        CHECK.says("Terms", "only 4 counts");
        for (int named = 0; named <= 3; named++) {
            ConsentRegister x = register();
            x.consent(1, 0, true, 0);
            x.contract(1, 0, 0, 10_000_000);
            for (int purpose = 0; purpose <= 3; purpose++) {
                x.duty(0, purpose, 100);
            }
            x.hold(1, named, 20);
            for (int purpose = 0; purpose <= 3; purpose++) {
                ground(x, 0, purpose, 20 * DAY - 1, 1);
                ground(x, 0, purpose, 20 * DAY, purpose == named ? 4 : 0);
            }
        }
    }

    private static void holdOfAPersonOnlyCountsAmongOthers() {
        CHECK.says("Terms", "When a hold of a person (not of a kind) covers the item");
        for (int right = 0; right < 3; right++) {
            ConsentRegister x = register();
            x.consent(1, 0, true, 0);
            for (int i = 0; i < 3; i++) {
                x.hold(i == right ? 1 : 2, 3, 20);
            }
            ground(x, 0, 1, 20 * DAY - 1, 1);
            ground(x, 0, 1, 20 * DAY, 0);
            x.lift(right, 30);
            ground(x, 0, 1, 30 * DAY, 1);
        }
    }

    private static void holdOfAPersonOnlyCounts() {
        CHECK.says("Terms", "only 4 counts");
        ConsentRegister x = register();
        x.consent(1, 0, true, 0);
        x.consent(2, 0, true, 0);
        x.contract(1, 1, 0, 10_000_000);
        x.duty(0, 1, 100);
        x.derive(1, 1, 0);
        x.hold(1, 3, 20);
        ground(x, 0, 1, 20 * DAY - 1, 1);
        ground(x, 0, 1, 20 * DAY, 0);
        ground(x, 0, 3, 20 * DAY, 4);
        ground(x, 1, 1, 20 * DAY, 1);
        ground(x, 2, 1, 20 * DAY - 1, 1);
        ground(x, 2, 1, 20 * DAY, 0);
        // A hold of a kind counts as 4, too, while one of a person keeps the others away.
        x.hold(100, 2, 0);
        ground(x, 0, 2, 20 * DAY, 4);
        x.lift(0, 30);
        ground(x, 0, 1, 30 * DAY - 1, 0);
        ground(x, 0, 1, 30 * DAY, 1);
        ground(x, 0, 2, 30 * DAY, 1);
    }

    private static void holdOfAKindLeavesOthers() {
        CHECK.says("Terms", "When a hold of a person (not of a kind) covers the item");
        ConsentRegister x = register();
        x.consent(1, 0, true, 0);
        x.contract(2, 2, 0, 10_000_000);
        x.duty(0, 1, 100);
        x.hold(100, 3, 0);
        ground(x, 0, 1, 20 * DAY, 1);
        ground(x, 0, 3, 20 * DAY, 1);
        ground(x, 1, 2, 20 * DAY, 2);
        ground(x, 1, 1, 20 * DAY, 3);
        ground(x, 1, 3, 20 * DAY, 4);
        ground(x, 1, 0, 20 * DAY, 0);
    }

    private static void firstGroundThatIs() {
        CHECK.says("Terms", "the first one that is");
        ConsentRegister x = register();
        int minute = 10 * DAY;
        x.hold(100, 1, 0);
        ground(x, 0, 1, minute, 4);
        x.duty(0, 1, 1);
        ground(x, 0, 1, minute, 3);
        x.contract(1, 1, minute, minute);
        ground(x, 0, 1, minute, 2);
        x.consent(1, 1, true, minute);
        ground(x, 0, 1, minute, 1);
        x.consent(1, 1, false, minute);
        ground(x, 0, 1, minute, 2);
        ground(x, 0, 1, minute + 1, 3);
        ground(x, 0, 1, minute + DAY, 4);
    }
}
