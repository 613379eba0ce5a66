import java.lang.reflect.InvocationTargetException;
import java.lang.reflect.Method;
import java.util.ArrayList;
import java.util.HashMap;
import java.util.List;
import java.util.Map;
import java.util.Set;

/**
 * A run of calls on a new object, each told as a text ("pass(3)") with the answer that is due.
 *
 * Behind each call the run looks at what the document says of all calls: one that is refused, or only tells, has
 * changed nothing; an act that is not refused has recorded the state that was before it. Each look is taken at
 * objects of its own, upon which the run is made once more, so that no object is used for more calls than the
 * document promises.
 */
final class Run {
    private static final int MOST_CALLS = 512;
    private static final int MOST_STATES = 4;
    private static final Set<String> ACTS = Set.of("announce", "leave", "send", "set", "pass", "perform", "restore");
    private static final Set<String> OTHER_CHANGES = Set.of("type", "clearText", "undo", "keep");
    private static final Map<String, Method> METHODS = methods();
    private static final List<Call> STATE = state();
    private static final List<Call> BRIEF = brief();
    private static final List<Call> STOP = List.of(Call.of("stopped(0)"), Call.of("stopped(1)"));

    private record Call(String told, Method method, Object[] arguments) {
        static Call of(String told) {
            int open = told.indexOf('(');
            Method method = METHODS.get(told.substring(0, open));
            String inside = told.substring(open + 1, told.length() - 1);
            String[] numbers = inside.isEmpty() ? new String[0] : inside.split(", *");
            Object[] arguments = new Object[numbers.length];
            for (int at = 0; at < numbers.length; at++) {
                arguments[at] = argument(numbers[at]);
            }
            return new Call(told, method, arguments);
        }

        /** A number, or a character between two quotes. */
        private static Object argument(String told) {
            return told.charAt(0) == '\'' ? (Object) told.charAt(1) : (Object) Integer.parseInt(told);
        }

        static Call typing(char sign) {
            return new Call("type(" + (int) sign + ")", METHODS.get("type"), new Object[] {sign});
        }

        int on(KingsBanquet x) {
            try {
                return (int) method.invoke(x, arguments);
            } catch (InvocationTargetException | IllegalAccessException e) {
                throw new IllegalStateException(told + " has thrown", e);
            }
        }

        boolean isAct() {
            return ACTS.contains(method.getName());
        }

        boolean onlyTells() {
            return !isAct() && !OTHER_CHANGES.contains(method.getName());
        }

        boolean isPerform() {
            return method.getName().equals("perform");
        }
    }

    private final Due due;
    private final String sentence;
    private final KingsBanquet object = new KingsBanquet();
    private final List<Call> calls = new ArrayList<>();
    private List<Integer> seen;

    /** A run that tests what the sentence says. */
    Run(Due due, String sentence) {
        this.due = due;
        this.sentence = sentence;
    }

    Run is(String told, int want) {
        make(Call.of(told), want);
        return this;
    }

    /** Makes calls that are not refused, whatever they answer. */
    Run then(String... all) {
        for (String told : all) {
            Call call = Call.of(told);
            int got = make(call, null);
            due.is(sentence + " " + told + " is not refused", got >= 0 ? 1 : 0, 1);
        }
        return this;
    }

    Run unknown(String... all) {
        return each(all, KingsBanquet.UNKNOWN);
    }

    Run badValue(String... all) {
        return each(all, KingsBanquet.BAD_VALUE);
    }

    Run full(String... all) {
        return each(all, KingsBanquet.FULL);
    }

    Run notPossible(String... all) {
        return each(all, KingsBanquet.NOT_POSSIBLE);
    }

    Run none(String... all) {
        return each(all, KingsBanquet.NONE);
    }

    private Run each(String[] all, int want) {
        for (String told : all) {
            is(told, want);
        }
        return this;
    }

    /** Types the text in place of the one that was. */
    Run text(String text) {
        then("clearText()");
        return typed(text);
    }

    /** Types the text behind the one that was. */
    Run typed(String text) {
        int length = object.count(16);
        for (int at = 0; at < text.length(); at++) {
            make(Call.typing(text.charAt(at)), length + at + 1);
        }
        return this;
    }

    /** The character is refused. */
    Run typedBeyond(char sign) {
        make(Call.typing(sign), KingsBanquet.FULL);
        return this;
    }

    /** These sit, from the head down, and nobody else. */
    Run table(int... kings) {
        for (int seat = 0; seat < kings.length; seat++) {
            is("seat(" + seat + ")", kings[seat]);
            is("king(" + kings[seat] + ", 4)", seat);
        }
        return kings.length < 12 ? none("seat(" + kings.length + ")") : this;
    }

    /** These wait, the first one first, and nobody else. */
    Run hall(int... kings) {
        for (int rank = 0; rank < kings.length; rank++) {
            is("waits(" + rank + ")", kings[rank]);
            is("king(" + kings[rank] + ", 5)", rank);
        }
        return none("waits(" + kings.length + ")");
    }

    /** Kings of these crowns, all of the age 50, sit down one by one, without a round till the minute 59. */
    Run seated(int... crowns) {
        then("set(0, 12)", "set(1, 60)");
        for (int king = 0; king < crowns.length; king++) {
            is("announce(" + crowns[king] + ", 50, " + king + ")", king);
        }
        return is("pass(" + crowns.length + ")", 0);
    }

    private int make(Call call, Integer want) {
        int got = call.on(object);
        if (want != null) {
            due.is(sentence + " " + call.told, got, want);
        }
        List<Call> with = new ArrayList<>(calls);
        with.add(call);
        if (got < 0 || call.onlyTells()) {
            changedNothing(call, got, with);
        } else {
            if (call.isAct()) {
                recorded(call, with);
            }
            seen = null;
        }
        calls.add(call);
        due.is(sentence + " calls of one object, at most 512", calls.size() <= MOST_CALLS ? 1 : 0, 1);
        return got;
    }

    private void changedNothing(Call call, int got, List<Call> with) {
        if (seen == null) {
            seen = everything(calls);
        }
        same(call.told + " has changed something", everything(with), seen);
        if (!call.isPerform() || got != KingsBanquet.NOT_POSSIBLE) {
            same(call.told + " has changed the latest stop", look(with, STOP), look(calls, STOP));
        }
    }

    private void recorded(Call call, List<Call> with) {
        List<Call> count = List.of(Call.of("count(15)"));
        int states = Math.min(look(calls, count).get(0) + 1, MOST_STATES);
        due.is(sentence + " states behind " + call.told, look(with, count).get(0), states);
        List<Call> undone = new ArrayList<>(with);
        undone.add(Call.of("undo()"));
        same(call.told + " undone", look(undone, STATE), look(calls, STATE));
        same(call.told + " undone, the latest stop", look(undone, STOP), look(with, STOP));
    }

    private void same(String told, List<Integer> got, List<Integer> want) {
        boolean alike = got.equals(want);
        due.is(sentence + " " + told + (alike ? "" : ": " + got + " in place of " + want), alike ? 0 : 1, 0);
    }

    /** All but the latest stop: the state, the history, the snapshot and the text. */
    private List<Integer> everything(List<Call> first) {
        List<Integer> all = new ArrayList<>(look(first, STATE));
        List<Call> history = new ArrayList<>(List.of(Call.of("count(15)"), Call.of("count(16)")));
        for (int state = 0; state <= MOST_STATES; state++) {
            history.add(Call.of("undo()"));
            history.addAll(BRIEF);
        }
        all.addAll(look(first, history));
        // Each of these stands first in a look, so that nothing stands between it and the run.
        for (String next : new String[] {"restore()", "perform()", "changesNeeded()", "ifRounds(9)", "dueIn(1)"}) {
            List<Call> asked = new ArrayList<>(List.of(Call.of(next)));
            asked.addAll(BRIEF);
            all.addAll(look(first, asked));
        }
        return all;
    }

    private List<Integer> look(List<Call> first, List<Call> asked) {
        due.is(sentence + " calls of a look, at most 512", first.size() + asked.size() <= MOST_CALLS ? 1 : 0, 1);
        KingsBanquet x = new KingsBanquet();
        for (Call call : first) {
            call.on(x);
        }
        List<Integer> answers = new ArrayList<>();
        for (Call call : asked) {
            answers.add(call.on(x));
        }
        return answers;
    }

    private static Map<String, Method> methods() {
        Map<String, Method> all = new HashMap<>();
        for (Method method : KingsBanquet.class.getMethods()) {
            all.put(method.getName(), method);
        }
        return all;
    }

    private static List<Call> state() {
        List<Call> all = accountsAndSeats();
        for (int king = 0; king < 24; king++) {
            all.add(Call.of("waits(" + king + ")"));
            for (int what = 0; what <= 8; what++) {
                all.add(Call.of("king(" + king + ", " + what + ")"));
            }
        }
        return all;
    }

    private static List<Call> brief() {
        List<Call> all = accountsAndSeats();
        all.add(Call.of("waits(0)"));
        all.add(Call.of("nextArrival()"));
        return all;
    }

    private static List<Call> accountsAndSeats() {
        List<Call> all = new ArrayList<>();
        for (int what = 0; what <= 14; what++) {
            all.add(Call.of("count(" + what + ")"));
        }
        for (int seat = 0; seat < 12; seat++) {
            all.add(Call.of("seat(" + seat + ")"));
        }
        return all;
    }
}
