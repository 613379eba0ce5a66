import java.util.Random;

/** Runs of calls from fixed seeds, in which the class and the model answer alike. */
public final class ModelTest {
    private static final int RUNS = 15000;
    private static final int QUESTIONS = 3;
    /** The document promises nothing behind the 512th call of an object. */
    private static final int MOST_CALLS = 512;
    /** More than an act with its text, its questions, and adding up take. */
    private static final int KEPT_FREE = 180;
    private static final String SIGNS = "kkll..;@0123456789x";
    private static final Due DUE = new Due("ModelTest");

    private final Random random;
    private final KingsBanquet class1 = new KingsBanquet();
    private final BanquetModel model = new BanquetModel();
    private final int run;
    private final int lastCrown;
    private final int lastAge;
    /** The first ones only announce kings and set settings; in some runs more kings than there is room for. */
    private final int firstActs;
    private int calls;

    private ModelTest(int run) {
        this.run = run;
        random = new Random(run);
        lastCrown = 1 + random.nextInt(9);
        lastAge = random.nextInt(4) == 0 ? 120 : random.nextInt(3);
        firstActs = random.nextInt(4) == 0 ? 55 : 12;
    }

    public static void main(String[] args) {
        for (int run = 0; run < RUNS && DUE.wrong() == 0; run++) {
            new ModelTest(run).run();
        }
        DUE.end();
    }

    private void run() {
        for (int act = 0; calls < MOST_CALLS - KEPT_FREE && DUE.wrong() == 0; act++) {
            act(act);
            for (int question = 0; question < QUESTIONS; question++) {
                ask();
            }
        }
        accountsAddUp();
        DUE.is("run " + run + ": at most 512 calls", calls <= MOST_CALLS ? 1 : 0, 1);
    }

    private void same(String call, int got, int want) {
        calls++;
        DUE.is("run " + run + ", call " + calls + ": " + call, got, want);
    }

    private int below(int bound) {
        return random.nextInt(bound);
    }

    private void act(int act) {
        int kind = act < firstActs ? below(2) : below(13);
        switch (kind) {
            case 0:
                announce();
                break;
            case 1:
                set();
                break;
            case 2, 3, 4, 5:
                int minutes = below(20) == 0 ? below(103) - 1 : 1 + below(4);
                same("pass(" + minutes + ")", class1.pass(minutes), model.pass(minutes));
                break;
            case 6:
                int king = below(26) - 1;
                same("leave(" + king + ")", class1.leave(king), model.leave(king));
                break;
            case 7:
                int seat = below(14) - 1;
                same("send(" + seat + ")", class1.send(seat), model.send(seat));
                break;
            case 8:
                same("undo()", class1.undo(), model.undo());
                break;
            case 9:
                same("keep()", class1.keep(), model.keep());
                break;
            case 10:
                same("restore()", class1.restore(), model.restore());
                break;
            default:
                text();
        }
    }

    private void announce() {
        int crown = 1 + below(lastCrown) - (below(30) == 0 ? 1 : 0) + (below(30) == 0 ? 9 : 0);
        int age = below(lastAge + 1) - (below(30) == 0 ? 1 : 0) + (below(30) == 0 ? 120 : 0);
        int minute = model.count(0) + below(8) - (below(20) == 0 ? 4 : 0) + (below(30) == 0 ? 9999 : 0);
        same("announce(" + crown + ", " + age + ", " + minute + ")", class1.announce(crown, age, minute),
                model.announce(crown, age, minute));
    }

    private void set() {
        int[] most = {13, 5, 4, 5};
        int which = below(4);
        int value = below(15) == 0 ? below(64) - 1 : below(most[which] + 1);
        which += below(40) == 0 ? 3 : 0;
        which -= below(40) == 0 ? 3 : 0;
        same("set(" + which + ", " + value + ")", class1.set(which, value), model.set(which, value));
    }

    private void text() {
        if (below(3) > 0) {
            same("clearText()", class1.clearText(), model.clearText());
        }
        String text = guests();
        for (char sign : text.toCharArray()) {
            same("type(" + sign + ")", class1.type(sign), model.type(sign));
        }
        same("perform() behind " + text, class1.perform(), model.perform());
        same("stopped(0)", class1.stopped(0), model.stopped(0));
        same("stopped(1)", class1.stopped(1), model.stopped(1));
    }

    private String guests() {
        StringBuilder text = new StringBuilder();
        int things = 1 + below(5);
        for (int thing = 0; thing < things; thing++) {
            text.append(thing > 0 ? ";" : "");
            switch (below(4)) {
                case 0:
                    text.append('l').append(below(24));
                    break;
                case 1:
                    text.append('.').append(1 + below(below(4) == 0 ? 99 : 3));
                    break;
                default:
                    int minute = model.count(0) + below(6) - (below(12) == 0 ? 3 : 0);
                    text.append('k').append(1 + below(9)).append('.').append(below(121)).append('@').append(minute);
            }
        }
        if (below(3) == 0) {
            int at = below(text.length());
            char sign = SIGNS.charAt(below(SIGNS.length()));
            if (below(2) == 0) {
                text.setCharAt(at, sign);
            } else {
                text.insert(at, sign);
            }
        }
        return text.toString();
    }

    private void ask() {
        int seat = below(14) - 1;
        int rank = below(below(4) == 0 ? 25 : 4) - 1;
        int rounds = below(33) - 1;
        int crown = below(11);
        int age = below(4) == 0 ? below(123) - 1 : below(lastAge + 1);
        switch (below(16)) {
            case 0, 1:
                int which = below(19) - 1;
                same("count(" + which + ")", class1.count(which), model.count(which));
                break;
            case 2, 3, 4:
                int king = someKing();
                int what = below(11) - 1;
                same("king(" + king + ", " + what + ")", class1.king(king, what), model.king(king, what));
                break;
            case 5, 6:
                king = someKing();
                same("dueIn(" + king + ")", class1.dueIn(king), model.dueIn(king));
                break;
            case 7:
                king = someKing();
                int other = someKing();
                same("reason(" + king + ", " + other + ")", class1.reason(king, other), model.reason(king, other));
                break;
            case 8:
                same("seat(" + seat + ")", class1.seat(seat), model.seat(seat));
                break;
            case 9:
                same("waits(" + rank + ")", class1.waits(rank), model.waits(rank));
                break;
            case 10:
                same("dueSeat(" + crown + ", " + age + ")", class1.dueSeat(crown, age), model.dueSeat(crown, age));
                break;
            case 11:
                same("ifRounds(" + rounds + ")", class1.ifRounds(rounds), model.ifRounds(rounds));
                break;
            default:
                askOfAll();
        }
    }

    private void askOfAll() {
        switch (below(4)) {
            case 0:
                same("wrongPairs()", class1.wrongPairs(), model.wrongPairs());
                break;
            case 1:
                same("changesNeeded()", class1.changesNeeded(), model.changesNeeded());
                break;
            case 2:
                same("mostSlighted()", class1.mostSlighted(), model.mostSlighted());
                break;
            default:
                same("nextArrival()", class1.nextArrival(), model.nextArrival());
        }
    }

    /** Mostly one of those who sit; sometimes one who was never announced. */
    private int someKing() {
        int sitting = model.count(4);
        return sitting > 0 && below(3) > 0 ? model.seat(below(sitting)) : below(model.count(1) + 2) - 1;
    }

    private int told(int answer) {
        calls++;
        return answer;
    }

    /** The accounts add up, whatever the model says. */
    private void accountsAddUp() {
        int kings = told(class1.count(1));
        int doing = 0;
        for (int what = 2; what <= 5; what++) {
            doing += told(class1.count(what));
        }
        int toasts = 0;
        int slights = 0;
        int angry = 0;
        for (int king = 0; king < kings; king++) {
            toasts += told(class1.king(king, 6));
            slights += told(class1.king(king, 7));
            angry += told(class1.king(king, 8));
        }
        DUE.is("the kings", doing, kings);
        DUE.is("the toasts", told(class1.count(8)), toasts);
        DUE.is("the slights", told(class1.count(9)), slights);
        DUE.is("the angry ones", told(class1.count(6)), angry);
        DUE.is("the pairs in two ways", told(class1.wrongPairs()), told(class1.changesNeeded()));
    }
}
