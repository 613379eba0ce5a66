import java.util.Random;

/** Runs of calls from fixed seeds, in which the class and the model answer alike. */
public final class ModelTest {
    private static final int RUNS = 400;
    private static final int CALLS = 250;
    private static final String SIGNS = "kkll..;@0123456789x";
    private static final Due DUE = new Due("ModelTest");

    private final Random random;
    private final KingsBanquet class1 = new KingsBanquet();
    private final BanquetModel model = new BanquetModel();
    private final int run;
    private final int lastCrown;
    private final int lastAge;

    private ModelTest(int run) {
        this.run = run;
        random = new Random(run);
        lastCrown = 1 + random.nextInt(9);
        lastAge = random.nextInt(4) == 0 ? 120 : random.nextInt(3);
    }

    public static void main(String[] args) {
        for (int run = 0; run < RUNS && DUE.wrong() == 0; run++) {
            new ModelTest(run).run();
        }
        accountsAddUp();
        DUE.end();
    }

    private void run() {
        for (int call = 0; call < CALLS && DUE.wrong() == 0; call++) {
            act(call);
            compare();
        }
    }

    private void same(String call, int got, int want) {
        DUE.is("run " + run + ": " + call, got, want);
    }

    private int below(int bound) {
        return random.nextInt(bound);
    }

    private void act(int call) {
        int kind = call < 12 ? below(2) : below(13);
        switch (kind) {
            case 0:
                announce();
                break;
            case 1:
                set();
                break;
            case 2, 3, 4, 5:
                int minutes = below(20) == 0 ? below(103) - 1 : 1 + below(4);
                same("pass(" + minutes + ")", class1.pass(minutes), model.pass(minutes));
                break;
            case 6:
                int king = below(26) - 1;
                same("leave(" + king + ")", class1.leave(king), model.leave(king));
                break;
            case 7:
                int seat = below(14) - 1;
                same("send(" + seat + ")", class1.send(seat), model.send(seat));
                break;
            case 8:
                same("undo()", class1.undo(), model.undo());
                break;
            case 9:
                same("keep()", class1.keep(), model.keep());
                break;
            case 10:
                same("restore()", class1.restore(), model.restore());
                break;
            default:
                text();
        }
    }

    private void announce() {
        int crown = 1 + below(lastCrown) - (below(30) == 0 ? 1 : 0) + (below(30) == 0 ? 9 : 0);
        int age = below(lastAge + 1) - (below(30) == 0 ? 1 : 0) + (below(30) == 0 ? 120 : 0);
        int minute = model.count(0) + below(8) - (below(20) == 0 ? 4 : 0) + (below(30) == 0 ? 9999 : 0);
        same("announce(" + crown + ", " + age + ", " + minute + ")", class1.announce(crown, age, minute),
                model.announce(crown, age, minute));
    }

    private void set() {
        int[] most = {13, 5, 4, 5};
        int which = below(4);
        int value = below(15) == 0 ? below(64) - 1 : below(most[which] + 1);
        which += below(40) == 0 ? 3 : 0;
        which -= below(40) == 0 ? 3 : 0;
        same("set(" + which + ", " + value + ")", class1.set(which, value), model.set(which, value));
    }

    private void text() {
        if (below(3) > 0) {
            same("clearText()", class1.clearText(), model.clearText());
        }
        String text = guests();
        for (char sign : text.toCharArray()) {
            same("type(" + sign + ")", class1.type(sign), model.type(sign));
        }
        same("perform() behind " + text, class1.perform(), model.perform());
        same("stopped(0)", class1.stopped(0), model.stopped(0));
        same("stopped(1)", class1.stopped(1), model.stopped(1));
    }

    private String guests() {
        StringBuilder text = new StringBuilder();
        int things = 1 + below(5);
        for (int thing = 0; thing < things; thing++) {
            text.append(thing > 0 ? ";" : "");
            switch (below(4)) {
                case 0:
                    text.append('l').append(below(24));
                    break;
                case 1:
                    text.append('.').append(1 + below(below(4) == 0 ? 99 : 3));
                    break;
                default:
                    int minute = model.count(0) + below(6) - (below(12) == 0 ? 3 : 0);
                    text.append('k').append(1 + below(9)).append('.').append(below(121)).append('@').append(minute);
            }
        }
        if (below(3) == 0) {
            int at = below(text.length());
            char sign = SIGNS.charAt(below(SIGNS.length()));
            if (below(2) == 0) {
                text.setCharAt(at, sign);
            } else {
                text.insert(at, sign);
            }
        }
        return text.toString();
    }

    private void compare() {
        for (int what = -1; what <= 17; what++) {
            same("count(" + what + ")", class1.count(what), model.count(what));
        }
        for (int king = -1; king <= 24; king++) {
            for (int what = -1; what <= 9; what++) {
                same("king(" + king + ", " + what + ")", class1.king(king, what), model.king(king, what));
            }
            same("dueIn(" + king + ")", class1.dueIn(king), model.dueIn(king));
            same("seat(" + king + ")", class1.seat(king), model.seat(king));
            same("waits(" + king + ")", class1.waits(king), model.waits(king));
            int other = below(26) - 1;
            same("reason(" + king + ", " + other + ")", class1.reason(king, other), model.reason(king, other));
        }
        int crown = below(11);
        int age = below(4) == 0 ? below(123) - 1 : below(lastAge + 1);
        int rounds = below(32);
        same("dueSeat(" + crown + ", " + age + ")", class1.dueSeat(crown, age), model.dueSeat(crown, age));
        same("wrongPairs()", class1.wrongPairs(), model.wrongPairs());
        same("changesNeeded()", class1.changesNeeded(), model.changesNeeded());
        same("mostSlighted()", class1.mostSlighted(), model.mostSlighted());
        same("ifRounds(" + rounds + ")", class1.ifRounds(rounds), model.ifRounds(rounds));
        same("nextArrival()", class1.nextArrival(), model.nextArrival());
    }

    /** The accounts add up, whatever the model says. */
    private static void accountsAddUp() {
        ModelTest test = new ModelTest(RUNS);
        for (int call = 0; call < CALLS; call++) {
            test.act(call);
            KingsBanquet x = test.class1;
            int toasts = 0;
            int slights = 0;
            int angry = 0;
            for (int king = 0; king < x.count(1); king++) {
                toasts += x.king(king, 6);
                slights += x.king(king, 7);
                angry += x.king(king, 8);
            }
            DUE.is("the kings", x.count(2) + x.count(3) + x.count(4) + x.count(5), x.count(1));
            DUE.is("the toasts", x.count(8), toasts);
            DUE.is("the slights", x.count(9), slights);
            DUE.is("the angry ones", x.count(6), angry);
            DUE.is("the pairs in two ways", x.wrongPairs(), x.changesNeeded());
        }
    }
}
