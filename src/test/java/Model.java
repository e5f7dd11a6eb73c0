import java.util.ArrayList;
import java.util.Comparator;
import java.util.HashSet;
import java.util.List;
import java.util.NoSuchElementException;
import java.util.Optional;
import java.util.Set;

/** The document told a second time, as close to its words as can be and without a thought of speed. */
final class Model {
    record Consent(int person, int purpose, boolean yes, int minute) { }

    record Contract(int person, int purpose, int from, int to) { }

    record Duty(int kind, int purpose, int days) {
        boolean covers(Item item, int day) {
            return item.kind == kind && item.day <= day && day < item.day + days;
        }
    }

    record Event(int person, int kind, int day) { }

    record Use(int item, int purpose, int minute, int ground) { }

    static final class Hold {
        int of;
        int purpose;
        int from;
        Integer lifted;

        boolean ofPerson() {
            return of < 100;
        }

        boolean covers(Item item, int day) {
            boolean its = ofPerson() ? item.persons.contains(of) : item.kind == of - 100;
            return its && from <= day && (lifted == null || day < lifted);
        }
    }

    static final class Item {
        int how = -1;
        int kind;
        int day;
        int value;
        Set<Integer> persons = new HashSet<>();
        List<Item> inputs = new ArrayList<>();
        boolean lives = true;
    }

    private final List<Integer> parents = new ArrayList<>();
    private final List<Integer> retentions = new ArrayList<>();
    private final List<Consent> consents = new ArrayList<>();
    private final List<Contract> contracts = new ArrayList<>();
    private final List<Duty> duties = new ArrayList<>();
    private final List<Event> events = new ArrayList<>();
    private final List<Hold> holds = new ArrayList<>();
    private final List<Item> items = new ArrayList<>();
    private final List<Use> uses = new ArrayList<>();
    private int why = -1;

    Model() {
        parents.add(null);
    }

    private static void argument(boolean right) {
        if (!right) {
            throw new IllegalArgumentException();
        }
    }

    private static void state(boolean right) {
        if (!right) {
            throw new IllegalStateException();
        }
    }

    private static boolean in(int x, int low, int high) {
        return low <= x && x <= high;
    }

    private static boolean person(int x) {
        return in(x, 0, 15);
    }

    private static boolean minute(int x) {
        return in(x, 0, 10_000_000);
    }

    private static boolean day(int x) {
        return in(x, 0, 6944);
    }

    private boolean isPurpose(int x) {
        return in(x, 0, parents.size() - 1);
    }

    private boolean isKind(int x) {
        return in(x, 0, retentions.size() - 1);
    }

    private Item living(int x) {
        return in(x, 0, items.size() - 1) && items.get(x).lives ? items.get(x) : null;
    }

    private boolean atOrAbove(int upper, Integer purpose) {
        return purpose != null && (upper == purpose || atOrAbove(upper, parents.get(purpose)));
    }

    private int depth(int purpose) {
        Integer parent = parents.get(purpose);
        return parent == null ? 0 : 1 + depth(parent);
    }

    private long value(Item item) {
        if (!item.lives) {
            return 0;
        }
        switch (item.how) {
            case 0:
                return value(item.inputs.get(0));
            case 1:
                return item.inputs.stream().filter(i -> i.lives).mapToLong(this::value).sum();
            case 2:
                return value(item.inputs.get(0)) > value(item.inputs.get(1)) ? 1 : 0;
            default:
                return item.value;
        }
    }

    int purpose(int parent) {
        argument(isPurpose(parent));
        state(parents.size() < 16);
        parents.add(parent);
        return parents.size() - 1;
    }

    int kind(int retention) {
        argument(in(retention, 1, 5000));
        state(retentions.size() < 8);
        retentions.add(retention);
        return retentions.size() - 1;
    }

    int consent(int person, int purpose, boolean yes, int minute) {
        argument(person(person) && isPurpose(purpose) && minute(minute));
        state(consents.size() < 100);
        consents.add(new Consent(person, purpose, yes, minute));
        return consents.size();
    }

    int contract(int person, int purpose, int from, int to) {
        argument(person(person) && isPurpose(purpose) && minute(from) && minute(to) && from <= to);
        state(contracts.size() < 40);
        contracts.add(new Contract(person, purpose, from, to));
        return contracts.size();
    }

    int duty(int kind, int purpose, int days) {
        argument(isKind(kind) && isPurpose(purpose) && in(days, 1, 5000));
        state(duties.size() < 20);
        duties.add(new Duty(kind, purpose, days));
        return duties.size();
    }

    int put(int person, int kind, int value, int day) {
        argument(person(person) && isKind(kind) && day(day));
        state(items.size() < 100);
        Item item = new Item();
        item.kind = kind;
        item.day = day;
        item.value = value;
        item.persons.add(person);
        items.add(item);
        return items.size() - 1;
    }

    int derive(int how, int a, int b) {
        argument(in(how, 0, 2) && (how == 0 || a != b));
        Item item = new Item();
        item.how = how;
        for (int input : how == 0 ? new int[] {a} : new int[] {a, b}) {
            if (living(input) == null) {
                throw new NoSuchElementException();
            }
            item.inputs.add(living(input));
            item.day = Math.max(item.day, living(input).day);
            item.persons.addAll(living(input).persons);
        }
        item.kind = item.inputs.get(0).kind;
        state(items.size() < 100);
        items.add(item);
        return items.size() - 1;
    }

    int event(int person, int kind, int day) {
        argument(person(person) && isKind(kind) && day(day));
        state(events.size() < 60);
        events.add(new Event(person, kind, day));
        return events.size();
    }

    int hold(int of, int purpose, int from) {
        argument((person(of) || in(of, 100, 100 + retentions.size() - 1)) && isPurpose(purpose) && day(from));
        state(holds.size() < 30);
        Hold hold = new Hold();
        hold.of = of;
        hold.purpose = purpose;
        hold.from = from;
        holds.add(hold);
        return holds.size() - 1;
    }

    void lift(int hold, int day) {
        argument(in(hold, 0, holds.size() - 1) && day <= 6944 && day >= holds.get(hold).from);
        state(holds.get(hold).lifted == null);
        holds.get(hold).lifted = day;
    }

    long use(int item, int purpose, int minute) {
        argument(isPurpose(purpose) && minute(minute));
        if (living(item) == null) {
            throw new NoSuchElementException();
        }
        why = ground(living(item), purpose, minute);
        if (uses.size() < 200) {
            uses.add(new Use(item, purpose, minute, why));
        }
        state(why != 0);
        return value(living(item));
    }

    private int ground(Item item, int purpose, int minute) {
        int day = minute / 1440;
        boolean onlyHold = holds.stream().anyMatch(h -> h.ofPerson() && h.covers(item, day));
        if (!onlyHold && item.persons.stream().allMatch(p -> saysYes(p, purpose, minute))) {
            return 1;
        }
        if (!onlyHold && contracts.stream().anyMatch(c -> item.persons.contains(c.person)
                && atOrAbove(c.purpose, purpose) && c.from <= minute && minute <= c.to)) {
            return 2;
        }
        if (!onlyHold && duties.stream().anyMatch(d -> d.purpose == purpose && d.covers(item, day))) {
            return 3;
        }
        return holds.stream().anyMatch(h -> h.purpose == purpose && h.covers(item, day)) ? 4 : 0;
    }

    /** Deepest purpose first, then the latest minute, then the place in the list: the greatest decides. */
    private boolean saysYes(int person, int purpose, int minute) {
        Optional<Consent> decides = consents.stream()
                .filter(c -> c.person == person && c.minute <= minute && atOrAbove(c.purpose, purpose))
                .reduce((best, next) -> Comparator.<Consent>comparingInt(c -> depth(c.purpose))
                        .thenComparingInt(Consent::minute).compare(next, best) >= 0 ? next : best);
        return decides.isPresent() && decides.get().yes;
    }

    int why() {
        return why;
    }

    private boolean kept(Item item, int day) {
        return item.lives && (holds.stream().anyMatch(h -> h.covers(item, day))
                || duties.stream().anyMatch(d -> d.covers(item, day))
                || items.stream().anyMatch(d -> d.inputs.contains(item) && kept(d, day)));
    }

    private int eraseAll(List<Item> chosen, int day) {
        int before = state(3);
        List<Item> going = new ArrayList<>();
        for (Item item : chosen) {
            if (!kept(item, day)) {
                going.add(item);
            }
        }
        going.forEach(item -> item.lives = false);
        boolean more = true;
        while (more) {
            more = false;
            for (Item item : items) {
                long alive = item.inputs.stream().filter(i -> i.lives).count();
                boolean lost = item.how >= 0 && (item.how == 1 ? alive == 0 : alive < item.inputs.size());
                if (item.lives && lost) {
                    item.lives = false;
                    more = true;
                }
            }
        }
        return before - state(3);
    }

    int erase(int person, int minute) {
        argument(person(person) && minute(minute));
        return eraseAll(items.stream().filter(i -> i.lives && i.how < 0 && i.persons.contains(person)).toList(),
                minute / 1440);
    }

    private int due(Item item) {
        if (item.how >= 0) {
            return -1;
        }
        int latest = events.stream().filter(e -> item.persons.contains(e.person) && e.kind == item.kind)
                .mapToInt(Event::day).max().orElse(-1);
        return latest < item.day ? -1 : latest + retentions.get(item.kind);
    }

    int sweep(int day) {
        argument(day(day));
        return eraseAll(items.stream().filter(i -> i.lives && due(i) >= 0 && due(i) <= day).toList(), day);
    }

    int held(int person, int i) {
        List<Item> its = items.stream().filter(x -> x.lives && x.persons.contains(person)).toList();
        return in(i, 0, its.size() - 1) ? items.indexOf(its.get(i)) : -1;
    }

    int logged(int i, int what) {
        if (!in(i, 0, uses.size() - 1) || !in(what, 0, 3)) {
            return -1;
        }
        Use use = uses.get(i);
        return new int[] {use.item, use.purpose, use.minute, use.ground}[what];
    }

    long peek(int item) {
        return living(item) == null ? 0 : value(living(item));
    }

    int look(int item, int what) {
        Item its = living(item);
        if (its == null || !in(what, 0, 4)) {
            return -1;
        }
        int bits = its.persons.stream().mapToInt(p -> 1 << p).sum();
        int derived = (int) items.stream().filter(d -> d.lives && d.inputs.contains(its)).count();
        return new int[] {its.kind, its.day, bits, due(its), derived}[what];
    }

    int state(int what) {
        if (!in(what, 0, 5)) {
            return -1;
        }
        int alive = (int) items.stream().filter(i -> i.lives).count();
        return new int[] {parents.size(), retentions.size(), items.size(), alive, uses.size(), holds.size()}[what];
    }
}
