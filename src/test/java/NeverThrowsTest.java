/** No call throws, for any arguments in any state, and what an error answers changes nothing. */
public final class NeverThrowsTest {
    private static final int[] NUMBERS = {
        Integer.MIN_VALUE, Integer.MIN_VALUE + 1, -1000000, -5, -1, 0, 1, 2, 5, 9, 11, 12, 23, 24, 60, 99, 120, 9999,
        10000, 99999, 238609294, Integer.MAX_VALUE - 1, Integer.MAX_VALUE
    };
    private static final char[] SIGNS = {'k', 'l', '.', ';', '@', '0', '9', (char) 0, (char) 65535};
    private static final Due DUE = new Due("NeverThrowsTest");

    public static void main(String[] args) {
        afterNothing();
        afterKings();
        wrongNumbers();
        DUE.end();
    }

    private static void afterNothing() {
        allCalls(new KingsBanquet());
    }

    private static void afterKings() {
        KingsBanquet x = new KingsBanquet();
        x.set(0, 12);
        x.set(1, 1);
        x.set(2, 0);
        x.set(3, 9);
        for (int king = 0; king < 24; king++) {
            x.announce(1 + king % 9, king, king / 3);
        }
        x.pass(6);
        x.keep();
        for (int time = 0; time < 5; time++) {
            allCalls(x);
        }
    }

    /** More calls than an object has to answer rightly, so that their answers are free; but none may throw. */
    private static void allCalls(KingsBanquet x) {
        for (int first : NUMBERS) {
            for (int second : NUMBERS) {
                x.announce(first, second, second);
                x.announce(5, first, second);
                x.set(first, second);
                x.king(first, second);
                x.reason(first, second);
                x.dueSeat(first, second);
            }
            oneNumber(x, first);
        }
        for (int sign = 0; sign < 70; sign++) {
            x.type(SIGNS[sign * 5 % SIGNS.length]);
            x.perform();
        }
        x.clearText();
    }

    private static void oneNumber(KingsBanquet x, int number) {
        x.send(number);
        x.pass(number);
        x.stopped(number);
        x.seat(number);
        x.waits(number);
        x.dueIn(number);
        x.ifRounds(number);
        x.count(number);
        x.leave(number);
        x.undo();
        x.restore();
        x.wrongPairs();
        x.changesNeeded();
        x.mostSlighted();
        x.nextArrival();
    }

    private static void wrongNumbers() {
        KingsBanquet x = new KingsBanquet();
        x.announce(5, 5, 0);
        x.announce(6, 5, 1);
        x.pass(2);
        int[] far = {Integer.MIN_VALUE, Integer.MAX_VALUE, 238609294, -238609294};
        for (int number : far) {
            DUE.is("announce, crown", x.announce(number, 5, 5), KingsBanquet.BAD_VALUE);
            DUE.is("announce, age", x.announce(5, number, 5), KingsBanquet.BAD_VALUE);
            DUE.is("announce, minute", x.announce(5, 5, number), KingsBanquet.BAD_VALUE);
            DUE.is("leave", x.leave(number), KingsBanquet.UNKNOWN);
            DUE.is("send", x.send(number), KingsBanquet.UNKNOWN);
            DUE.is("set, which", x.set(number, 5), KingsBanquet.UNKNOWN);
            DUE.is("set, value", x.set(1, number), KingsBanquet.BAD_VALUE);
            DUE.is("pass", x.pass(number), KingsBanquet.BAD_VALUE);
            DUE.is("stopped", x.stopped(number), KingsBanquet.BAD_VALUE);
            DUE.is("king, king", x.king(number, 0), KingsBanquet.UNKNOWN);
            DUE.is("king, what", x.king(0, number), KingsBanquet.BAD_VALUE);
            DUE.is("seat", x.seat(number), KingsBanquet.UNKNOWN);
            DUE.is("waits", x.waits(number), number < 0 ? KingsBanquet.BAD_VALUE : KingsBanquet.NONE);
            DUE.is("reason", x.reason(number, 0), KingsBanquet.UNKNOWN);
            DUE.is("reason, other", x.reason(0, number), KingsBanquet.UNKNOWN);
            DUE.is("dueIn", x.dueIn(number), KingsBanquet.UNKNOWN);
            DUE.is("dueSeat, crown", x.dueSeat(number, 5), KingsBanquet.BAD_VALUE);
            DUE.is("dueSeat, age", x.dueSeat(5, number), KingsBanquet.BAD_VALUE);
            DUE.is("ifRounds", x.ifRounds(number), KingsBanquet.BAD_VALUE);
            DUE.is("count", x.count(number), KingsBanquet.BAD_VALUE);
        }
        DUE.is("nothing was recorded: count(15)", x.count(15), 3);
    }
}
