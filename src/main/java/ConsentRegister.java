import java.util.NoSuchElementException;

/**
 * A register of items about persons: purposes in a tree, grounds and holds that decide each use,
 * items derived from others, retention by days, and erasure that reaches all that was derived;
 * each use is logged, without values.
 */
public final class ConsentRegister {
    private static final int NONE = -1;
    private static final int PERSONS = 16;
    private static final int LAST_MINUTE = 10_000_000;
    private static final int LAST_DAY = 6_944;
    private static final int MINUTES_OF_A_DAY = 1_440;
    private static final int MOST_DAYS = 5_000;
    private static final int FIRST_KIND_OF_HOLD = 100;

    private static final int NO_GROUND = 0;
    private static final int BY_CONSENT = 1;
    private static final int BY_CONTRACT = 2;
    private static final int BY_DUTY = 3;
    private static final int BY_HOLD = 4;

    private final Purposes purposes;
    private final Kinds kinds;
    private final Consents consents;
    private final Contracts contracts;
    private final Duties duties;
    private final Items items;
    private final Events events;
    private final Holds holds;
    private final UseLog log;
    private int latestGround;

    public ConsentRegister() {
        purposes = new Purposes();
        kinds = new Kinds();
        consents = new Consents();
        contracts = new Contracts();
        duties = new Duties();
        items = new Items();
        events = new Events();
        holds = new Holds();
        log = new UseLog();
        latestGround = NONE;
    }

    public int purpose(int parent) throws IllegalArgumentException, IllegalStateException {
        needPurpose(parent);
        needRoom(purposes.hasRoom());
        return purposes.add(parent);
    }

    public int kind(int retention) throws IllegalArgumentException, IllegalStateException {
        needLength(retention);
        needRoom(kinds.hasRoom());
        return kinds.add(retention);
    }

    public int consent(int person, int purpose, boolean yes, int minute)
            throws IllegalArgumentException, IllegalStateException {
        needPerson(person);
        needPurpose(purpose);
        needMinute(minute);
        needRoom(consents.hasRoom());
        return consents.add(person, purpose, yes, minute);
    }

    public int contract(int person, int purpose, int from, int to)
            throws IllegalArgumentException, IllegalStateException {
        needPerson(person);
        needPurpose(purpose);
        needMinute(from);
        needMinute(to);
        needOrder(from, to);
        needRoom(contracts.hasRoom());
        return contracts.add(person, purpose, from, to);
    }

    public int duty(int kind, int purpose, int days)
            throws IllegalArgumentException, IllegalStateException {
        needKind(kind);
        needPurpose(purpose);
        needLength(days);
        needRoom(duties.hasRoom());
        return duties.add(kind, purpose, days);
    }

    public int put(int person, int kind, int value, int day)
            throws IllegalArgumentException, IllegalStateException {
        needPerson(person);
        needKind(kind);
        needDay(day);
        needRoom(items.hasRoom());
        return items.addPut(person, kind, value, day);
    }

    public int derive(int how, int a, int b)
            throws NoSuchElementException, IllegalArgumentException, IllegalStateException {
        needWayToDerive(how);
        boolean two = how != Items.COPY;
        if (two) {
            needDifferent(a, b);
        }
        needLiving(a);
        if (two) {
            needLiving(b);
        }
        needRoom(items.hasRoom());
        return items.addDerived(how, a, two ? b : NONE);
    }

    public int event(int person, int kind, int day)
            throws IllegalArgumentException, IllegalStateException {
        needPerson(person);
        needKind(kind);
        needDay(day);
        needRoom(events.hasRoom());
        return events.add(person, kind, day);
    }

    public int hold(int of, int purpose, int from)
            throws IllegalArgumentException, IllegalStateException {
        if (of < FIRST_KIND_OF_HOLD) {
            needPerson(of);
        } else {
            needKind(of - FIRST_KIND_OF_HOLD);
        }
        needPurpose(purpose);
        needDay(from);
        needRoom(holds.hasRoom());
        return holds.add(of, purpose, from);
    }

    public void lift(int hold, int day) throws IllegalArgumentException, IllegalStateException {
        needHold(hold);
        needDay(day);
        needOrder(holds.firstDay(hold), day);
        needNotLifted(hold);
        holds.end(hold, day);
    }

    public long use(int item, int purpose, int minute)
            throws NoSuchElementException, IllegalArgumentException, IllegalStateException {
        needPurpose(purpose);
        needMinute(minute);
        needLiving(item);
        latestGround = groundFor(item, purpose, minute);
        log.add(item, purpose, minute, latestGround);
        needGround(latestGround);
        return items.wordOf(item);
    }

    public int why() {
        return latestGround;
    }

    public int erase(int person, int minute) throws IllegalArgumentException {
        needPerson(person);
        needMinute(minute);
        markKept(dayOfMinute(minute));
        int before = items.living();
        for (int item = 0; item < items.count(); item++) {
            if (items.wasPut(item) && hasPerson(items.personsOf(item), person)) {
                items.wipeUnlessKept(item);
            }
        }
        items.followErasure();
        return before - items.living();
    }

    public int sweep(int day) throws IllegalArgumentException {
        needDay(day);
        markKept(day);
        int before = items.living();
        for (int item = 0; item < items.count(); item++) {
            int due = dueDay(item);
            if (due != NONE && due <= day) {
                items.wipeUnlessKept(item);
            }
        }
        items.followErasure();
        return before - items.living();
    }

    public int held(int person, int i) {
        int seen = 0;
        for (int item = 0; item < items.count(); item++) {
            if (items.lives(item) && hasPerson(items.personsOf(item), person)) {
                if (seen == i) {
                    return item;
                }
                seen++;
            }
        }
        return NONE;
    }

    public int logged(int i, int what) {
        return log.cell(i, what);
    }

    public long peek(int item) {
        return items.wordOf(item);
    }

    public int look(int item, int what) {
        if (!items.lives(item)) {
            return NONE;
        }
        switch (what) {
            case 0:
                return items.kindOf(item);
            case 1:
                return items.dayOf(item);
            case 2:
                return items.personsOf(item);
            case 3:
                return dueDay(item);
            case 4:
                return items.livingDerivedFrom(item);
            default:
                return NONE;
        }
    }

    public int state(int what) {
        switch (what) {
            case 0:
                return purposes.count();
            case 1:
                return kinds.count();
            case 2:
                return items.count();
            case 3:
                return items.living();
            case 4:
                return log.count();
            case 5:
                return holds.count();
            default:
                return NONE;
        }
    }

    private int groundFor(int item, int purpose, int minute) {
        int persons = items.personsOf(item);
        int kind = items.kindOf(item);
        int day = dayOfMinute(minute);
        if (!holds.coverByPerson(persons, day)) {
            if (consents.allSayYes(purposes, persons, purpose, minute)) {
                return BY_CONSENT;
            }
            if (contracts.oneSpans(purposes, persons, purpose, minute)) {
                return BY_CONTRACT;
            }
            if (duties.coverFor(purpose, kind, items.dayOf(item), day)) {
                return BY_DUTY;
            }
        }
        return holds.coverFor(purpose, persons, kind, day) ? BY_HOLD : NO_GROUND;
    }

    /** Goes from the newest item back: what is derived comes after its inputs and marks them. */
    private void markKept(int day) {
        items.forgetKept();
        for (int item = items.count() - 1; item >= 0; item--) {
            if (items.lives(item) && (items.isKept(item) || isCovered(item, day))) {
                items.keepWithInputs(item);
            }
        }
    }

    private boolean isCovered(int item, int day) {
        int kind = items.kindOf(item);
        return holds.cover(items.personsOf(item), kind, day)
                || duties.cover(kind, items.dayOf(item), day);
    }

    private int dueDay(int item) {
        if (!items.lives(item) || !items.wasPut(item)) {
            return NONE;
        }
        int kind = items.kindOf(item);
        int latest = events.latestDay(items.personsOf(item), kind, items.dayOf(item));
        return latest == NONE ? NONE : latest + kinds.retentionOf(kind);
    }

    private static int dayOfMinute(int minute) {
        return minute / MINUTES_OF_A_DAY;
    }

    private static boolean isPerson(int person) {
        return person >= 0 && person < PERSONS;
    }

    private static boolean hasPerson(int persons, int person) {
        return isPerson(person) && ((persons >> person) & 1) == 1;
    }

    private static void needPerson(int person) {
        if (!isPerson(person)) {
            throw new IllegalArgumentException("there is no such person");
        }
    }

    private void needPurpose(int purpose) {
        if (!purposes.has(purpose)) {
            throw new IllegalArgumentException("there is no such purpose");
        }
    }

    private void needKind(int kind) {
        if (!kinds.has(kind)) {
            throw new IllegalArgumentException("there is no such kind");
        }
    }

    private void needHold(int hold) {
        if (!holds.has(hold)) {
            throw new IllegalArgumentException("there is no such hold");
        }
    }

    private static void needMinute(int minute) {
        if (minute < 0 || minute > LAST_MINUTE) {
            throw new IllegalArgumentException("a minute is 0 to 10,000,000");
        }
    }

    private static void needDay(int day) {
        if (day < 0 || day > LAST_DAY) {
            throw new IllegalArgumentException("a day is 0 to 6,944");
        }
    }

    private static void needLength(int days) {
        if (days < 1 || days > MOST_DAYS) {
            throw new IllegalArgumentException("the days are 1 to 5,000");
        }
    }

    private static void needOrder(int first, int last) {
        if (first > last) {
            throw new IllegalArgumentException("the end is before the beginning");
        }
    }

    private static void needWayToDerive(int how) {
        if (how != Items.COPY && how != Items.SUM && how != Items.FLAG) {
            throw new IllegalArgumentException("there is no such way to derive");
        }
    }

    private static void needDifferent(int a, int b) {
        if (a == b) {
            throw new IllegalArgumentException("both inputs are one item");
        }
    }

    private void needLiving(int item) {
        if (!items.lives(item)) {
            throw new NoSuchElementException("the item does not live");
        }
    }

    private static void needRoom(boolean room) {
        if (!room) {
            throw new IllegalStateException("there is no room for more");
        }
    }

    private void needNotLifted(int hold) {
        if (holds.isLifted(hold)) {
            throw new IllegalStateException("the hold was lifted");
        }
    }

    private static void needGround(int ground) {
        if (ground == NO_GROUND) {
            throw new IllegalStateException("there is no ground");
        }
    }

    /** The tree of purposes; a parent is always older than its children. */
    private static final class Purposes {
        private static final int MOST = 16;
        private final int[] parents = new int[MOST];
        private int count;

        Purposes() {
            parents[0] = NONE;
            count = 1;
        }

        int count() {
            return count;
        }

        boolean hasRoom() {
            return count < MOST;
        }

        boolean has(int purpose) {
            return purpose >= 0 && purpose < count;
        }

        int parentOf(int purpose) {
            return has(purpose) ? parents[purpose] : NONE;
        }

        int add(int parent) {
            if (hasRoom()) {
                parents[count] = parent;
                count++;
            }
            return count - 1;
        }

        boolean isAtOrAbove(int upper, int purpose) {
            int at = purpose;
            for (int step = 0; step < MOST && has(at); step++) {
                if (at == upper) {
                    return true;
                }
                at = parentOf(at);
            }
            return false;
        }
    }

    private static final class Kinds {
        private static final int MOST = 8;
        private final int[] retentions = new int[MOST];
        private int count;

        int count() {
            return count;
        }

        boolean hasRoom() {
            return count < MOST;
        }

        boolean has(int kind) {
            return kind >= 0 && kind < count;
        }

        int retentionOf(int kind) {
            return has(kind) ? retentions[kind] : 0;
        }

        int add(int retention) {
            if (hasRoom()) {
                retentions[count] = retention;
                count++;
            }
            return count - 1;
        }
    }

    private static final class Consents {
        private static final int MOST = 100;
        private final int[] persons = new int[MOST];
        private final int[] purposes = new int[MOST];
        private final int[] minutes = new int[MOST];
        private final boolean[] yeses = new boolean[MOST];
        private int count;

        boolean hasRoom() {
            return count < MOST;
        }

        int add(int person, int purpose, boolean yes, int minute) {
            if (hasRoom()) {
                persons[count] = person;
                purposes[count] = purpose;
                yeses[count] = yes;
                minutes[count] = minute;
                count++;
            }
            return count;
        }

        boolean allSayYes(Purposes tree, int bits, int purpose, int minute) {
            for (int person = 0; person < PERSONS; person++) {
                if (hasPerson(bits, person) && !saysYes(tree, person, purpose, minute)) {
                    return false;
                }
            }
            return true;
        }

        /** The nearest purpose with an entry decides, also when one above it says otherwise. */
        private boolean saysYes(Purposes tree, int person, int purpose, int minute) {
            int at = purpose;
            for (int step = 0; step < Purposes.MOST && tree.has(at); step++) {
                int entry = latestAt(person, at, minute);
                if (entry != NONE) {
                    return yeses[entry];
                }
                at = tree.parentOf(at);
            }
            return false;
        }

        private int latestAt(int person, int purpose, int minute) {
            int best = NONE;
            for (int i = 0; i < count; i++) {
                boolean counts = persons[i] == person && purposes[i] == purpose && minutes[i] <= minute;
                if (counts && (best == NONE || minutes[i] >= minutes[best])) {
                    best = i;
                }
            }
            return best;
        }
    }

    private static final class Contracts {
        private static final int MOST = 40;
        private final int[] persons = new int[MOST];
        private final int[] purposes = new int[MOST];
        private final int[] froms = new int[MOST];
        private final int[] tos = new int[MOST];
        private int count;

        boolean hasRoom() {
            return count < MOST;
        }

        int add(int person, int purpose, int from, int to) {
            if (hasRoom()) {
                persons[count] = person;
                purposes[count] = purpose;
                froms[count] = from;
                tos[count] = to;
                count++;
            }
            return count;
        }

        boolean oneSpans(Purposes tree, int bits, int purpose, int minute) {
            for (int i = 0; i < count; i++) {
                boolean inTime = froms[i] <= minute && minute <= tos[i];
                if (inTime && hasPerson(bits, persons[i]) && tree.isAtOrAbove(purposes[i], purpose)) {
                    return true;
                }
            }
            return false;
        }
    }

    private static final class Duties {
        private static final int MOST = 20;
        private final int[] kinds = new int[MOST];
        private final int[] purposes = new int[MOST];
        private final int[] lengths = new int[MOST];
        private int count;

        boolean hasRoom() {
            return count < MOST;
        }

        int add(int kind, int purpose, int days) {
            if (hasRoom()) {
                kinds[count] = kind;
                purposes[count] = purpose;
                lengths[count] = days;
                count++;
            }
            return count;
        }

        boolean coverFor(int purpose, int kind, int itemDay, int day) {
            for (int i = 0; i < count; i++) {
                if (purposes[i] == purpose && covers(i, kind, itemDay, day)) {
                    return true;
                }
            }
            return false;
        }

        boolean cover(int kind, int itemDay, int day) {
            for (int i = 0; i < count; i++) {
                if (covers(i, kind, itemDay, day)) {
                    return true;
                }
            }
            return false;
        }

        private boolean covers(int i, int kind, int itemDay, int day) {
            return kinds[i] == kind && itemDay <= day && day < itemDay + lengths[i];
        }
    }

    private static final class Events {
        private static final int MOST = 60;
        private final int[] persons = new int[MOST];
        private final int[] kinds = new int[MOST];
        private final int[] days = new int[MOST];
        private int count;

        boolean hasRoom() {
            return count < MOST;
        }

        int add(int person, int kind, int day) {
            if (hasRoom()) {
                persons[count] = person;
                kinds[count] = kind;
                days[count] = day;
                count++;
            }
            return count;
        }

        int latestDay(int bits, int kind, int notBefore) {
            int latest = NONE;
            for (int i = 0; i < count; i++) {
                if (kinds[i] == kind && hasPerson(bits, persons[i]) && days[i] >= notBefore) {
                    latest = Math.max(latest, days[i]);
                }
            }
            return latest;
        }
    }

    private static final class Holds {
        private static final int MOST = 30;
        /** Beyond every day that a hold can be lifted on, so it never ends. */
        private static final int NOT_LIFTED = LAST_DAY + 1;
        private final int[] ofs = new int[MOST];
        private final int[] purposes = new int[MOST];
        private final int[] froms = new int[MOST];
        private final int[] ends = new int[MOST];
        private int count;

        int count() {
            return count;
        }

        boolean hasRoom() {
            return count < MOST;
        }

        boolean has(int hold) {
            return hold >= 0 && hold < count;
        }

        int firstDay(int hold) {
            return has(hold) ? froms[hold] : NONE;
        }

        boolean isLifted(int hold) {
            return has(hold) && ends[hold] != NOT_LIFTED;
        }

        int add(int of, int purpose, int from) {
            if (hasRoom()) {
                ofs[count] = of;
                purposes[count] = purpose;
                froms[count] = from;
                ends[count] = NOT_LIFTED;
                count++;
            }
            return count - 1;
        }

        void end(int hold, int day) {
            if (has(hold)) {
                ends[hold] = day;
            }
        }

        boolean coverByPerson(int bits, int day) {
            for (int i = 0; i < count; i++) {
                if (runsOn(i, day) && hasPerson(bits, ofs[i])) {
                    return true;
                }
            }
            return false;
        }

        boolean coverFor(int purpose, int bits, int kind, int day) {
            for (int i = 0; i < count; i++) {
                if (purposes[i] == purpose && covers(i, bits, kind, day)) {
                    return true;
                }
            }
            return false;
        }

        boolean cover(int bits, int kind, int day) {
            for (int i = 0; i < count; i++) {
                if (covers(i, bits, kind, day)) {
                    return true;
                }
            }
            return false;
        }

        private boolean covers(int i, int bits, int kind, int day) {
            return runsOn(i, day) && (hasPerson(bits, ofs[i]) || ofs[i] - FIRST_KIND_OF_HOLD == kind);
        }

        private boolean runsOn(int i, int day) {
            return froms[i] <= day && day < ends[i];
        }
    }

    /** All items that ever were; an item's inputs always have lower numbers than the item. */
    private static final class Items {
        static final int COPY = 0;
        static final int SUM = 1;
        static final int FLAG = 2;
        private static final int PUT = 3;
        private static final int MOST = 100;
        private final int[] hows = new int[MOST];
        private final int[] kinds = new int[MOST];
        private final int[] days = new int[MOST];
        private final int[] persons = new int[MOST];
        private final int[] firsts = new int[MOST];
        private final int[] seconds = new int[MOST];
        private final long[] words = new long[MOST];
        private final boolean[] alive = new boolean[MOST];
        private final boolean[] kept = new boolean[MOST];
        private int count;
        private int living;

        int count() {
            return count;
        }

        int living() {
            return living;
        }

        boolean hasRoom() {
            return count < MOST;
        }

        boolean has(int item) {
            return item >= 0 && item < count;
        }

        boolean lives(int item) {
            return has(item) && alive[item];
        }

        boolean wasPut(int item) {
            return has(item) && hows[item] == PUT;
        }

        boolean isKept(int item) {
            return has(item) && kept[item];
        }

        int kindOf(int item) {
            return has(item) ? kinds[item] : NONE;
        }

        int dayOf(int item) {
            return has(item) ? days[item] : NONE;
        }

        int personsOf(int item) {
            return has(item) ? persons[item] : 0;
        }

        long wordOf(int item) {
            return lives(item) ? words[item] : 0L;
        }

        int addPut(int person, int kind, int value, int day) {
            if (hasRoom()) {
                hows[count] = PUT;
                firsts[count] = NONE;
                seconds[count] = NONE;
                words[count] = value;
                bear(kind, day, 1 << person);
            }
            return count - 1;
        }

        int addDerived(int how, int a, int b) {
            if (hasRoom()) {
                hows[count] = how;
                firsts[count] = a;
                seconds[count] = b;
                words[count] = derivedWord(count);
                bear(kindOf(a), Math.max(dayOf(a), dayOf(b)), personsOf(a) | personsOf(b));
            }
            return count - 1;
        }

        private void bear(int kind, int day, int bits) {
            if (hasRoom()) {
                kinds[count] = kind;
                days[count] = day;
                persons[count] = bits;
                alive[count] = true;
                count++;
                living++;
            }
        }

        /** An erased input's word is 0, so a sum counts only those that live. */
        private long derivedWord(int item) {
            long first = wordOf(firsts[item]);
            long second = wordOf(seconds[item]);
            if (hows[item] == FLAG) {
                return first > second ? 1L : 0L;
            }
            return first + second;
        }

        int livingDerivedFrom(int item) {
            int found = 0;
            for (int i = 0; i < count; i++) {
                if (alive[i] && (firsts[i] == item || seconds[i] == item)) {
                    found++;
                }
            }
            return found;
        }

        void forgetKept() {
            for (int i = 0; i < count; i++) {
                kept[i] = false;
            }
        }

        void keepWithInputs(int item) {
            if (has(item)) {
                kept[item] = true;
                keep(firsts[item]);
                keep(seconds[item]);
            }
        }

        private void keep(int item) {
            if (has(item)) {
                kept[item] = true;
            }
        }

        void wipeUnlessKept(int item) {
            if (lives(item) && !kept[item]) {
                wipe(item);
            }
        }

        private void wipe(int item) {
            alive[item] = false;
            words[item] = 0L;
            living--;
        }

        /** One pass from the oldest on is enough, since inputs are older than what they gave. */
        void followErasure() {
            for (int i = 0; i < count; i++) {
                if (alive[i] && hows[i] != PUT) {
                    if (hasLostInputs(i)) {
                        wipe(i);
                    } else {
                        words[i] = derivedWord(i);
                    }
                }
            }
        }

        private boolean hasLostInputs(int item) {
            boolean first = lives(firsts[item]);
            boolean second = lives(seconds[item]);
            switch (hows[item]) {
                case COPY:
                    return !first;
                case SUM:
                    return !first && !second;
                case FLAG:
                    return !first || !second;
                default:
                    return false;
            }
        }
    }

    /** The uses, without values; what comes when it is full is left out. */
    private static final class UseLog {
        private static final int MOST = 200;
        private final int[] items = new int[MOST];
        private final int[] purposes = new int[MOST];
        private final int[] minutes = new int[MOST];
        private final int[] grounds = new int[MOST];
        private int count;

        int count() {
            return count;
        }

        void add(int item, int purpose, int minute, int ground) {
            if (count < MOST) {
                items[count] = item;
                purposes[count] = purpose;
                minutes[count] = minute;
                grounds[count] = ground;
                count++;
            }
        }

        int cell(int i, int what) {
            if (i < 0 || i >= count) {
                return NONE;
            }
            switch (what) {
                case 0:
                    return items[i];
                case 1:
                    return purposes[i];
                case 2:
                    return minutes[i];
                case 3:
                    return grounds[i];
                default:
                    return NONE;
            }
        }
    }
}
