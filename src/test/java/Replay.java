import java.util.ArrayList;
import java.util.List;
import java.util.NoSuchElementException;

/**
 * A run of calls that can be made again on new objects: so all that can be seen of it is asked
 * without one object having more than the 512 calls that the document speaks of.
 */
final class Replay {
    interface Step {
        void on(ConsentRegister x);
    }

    interface Question {
        long of(ConsentRegister x);
    }

    private static final int MOST_CALLS = 512;
    private static final int[] MINUTES = {0, 1439, 1440, 7199, 7200, 14_400, 9_999_360, 10_000_000};
    private static final int[] DAYS = {0, 5, 15, 6944};

    private final List<Step> steps = new ArrayList<>();

    Replay then(Step step) {
        steps.add(step);
        return this;
    }

    Replay and(Step step) {
        Replay longer = new Replay();
        longer.steps.addAll(steps);
        return longer.then(step);
    }

    ConsentRegister made() {
        ConsentRegister x = new ConsentRegister();
        for (Step step : steps) {
            told(y -> {
                step.on(y);
                return 0;
            }, x);
        }
        return x;
    }

    static String told(Question question, ConsentRegister x) {
        try {
            return Long.toString(question.of(x));
        } catch (IllegalArgumentException | IllegalStateException | NoSuchElementException e) {
            return e.getClass().getSimpleName();
        }
    }

    /** What the views answer about the log and the latest use. */
    List<String> seenOfUses() {
        List<Question> views = new ArrayList<>(List.of(ConsentRegister::why, x -> x.state(4)));
        for (int i = 0; i < 200; i++) {
            for (int what = 0; what < 4; what++) {
                int[] a = {i, what};
                views.add(x -> x.logged(a[0], a[1]));
            }
        }
        return answers(views, 1);
    }

    /** What every other view answers, and what every other call would answer if it came next. */
    List<String> seenOfTheRest() {
        int items = made().state(2);
        List<String> all = answers(views(items), 1);
        all.addAll(answers(grounds(living(items), made().state(0)), 2));
        all.addAll(answers(next(), MOST_CALLS - steps.size()));
        return all;
    }

    private List<Integer> living(int items) {
        List<Integer> living = new ArrayList<>();
        for (int item = 0; item < items; item++) {
            if (made().look(item, 0) != -1) {
                living.add(item);
            }
        }
        return living;
    }

    private static List<Question> views(int items) {
        List<Question> views = new ArrayList<>();
        for (int what : new int[] {0, 1, 2, 3, 5}) {
            views.add(x -> x.state(what));
        }
        for (int i = 0; i < items; i++) {
            int item = i;
            views.add(x -> x.peek(item));
            for (int w = 0; w < 5; w++) {
                int what = w;
                views.add(x -> x.look(item, what));
            }
        }
        for (int p = 0; p < 16; p++) {
            for (int j = 0; j < 12; j++) {
                int[] a = {p, j};
                views.add(x -> x.held(a[0], a[1]));
            }
        }
        return views;
    }

    /** The ground of each use; a use changes no other's ground, so one object can be asked many. */
    private static List<Question> grounds(List<Integer> items, int purposes) {
        List<Question> uses = new ArrayList<>();
        for (int i : items) {
            for (int p = 0; p < purposes; p++) {
                for (int minute : MINUTES) {
                    int[] a = {i, p, minute};
                    uses.add(x -> {
                        told(y -> y.use(a[0], a[1], a[2]), x);
                        return x.why();
                    });
                }
            }
        }
        return uses;
    }

    private static List<Question> next() {
        List<Question> calls = new ArrayList<>(List.of(
                x -> x.purpose(0), x -> x.kind(1), x -> x.consent(0, 0, true, 0), x -> x.contract(0, 0, 0, 0),
                x -> x.duty(0, 0, 1), x -> x.put(0, 0, 0, 0), x -> x.derive(0, 0, 0), x -> x.event(0, 0, 0),
                x -> x.hold(0, 0, 0)));
        for (int h = 0; h < 30; h++) {
            int hold = h;
            calls.add(x -> {
                x.lift(hold, 6944);
                return 0;
            });
        }
        for (int day : DAYS) {
            calls.add(x -> x.sweep(day));
        }
        for (int person = 0; person < 16; person++) {
            int p = person;
            calls.add(x -> x.erase(p, 7200));
        }
        return calls;
    }

    /** A question takes so many calls; a new object is made when the next one would be one too many. */
    private List<String> answers(List<Question> questions, int calls) {
        List<String> all = new ArrayList<>();
        ConsentRegister x = made();
        int made = steps.size();
        for (Question question : questions) {
            if (made + calls > MOST_CALLS) {
                x = made();
                made = steps.size();
            }
            all.add(told(question, x));
            made += calls;
        }
        return all;
    }
}
