/** Promises 11 to 13: undo and the snapshot; and which calls are acts. */
public final class HistoryTest {
    private static final Due DUE = new Due("HistoryTest");
    private static final int MOST_KINGS_HERE = 7;

    public static void main(String[] args) {
        promise11Undo();
        promise11FourStates();
        promise11AllOfTheState();
        promise11Errors();
        promise12Keep();
        promise13Restore();
        promise13RestoreIsAnAct();
        DUE.end();
    }

    private static void promise11Undo() {
        KingsBanquet x = new KingsBanquet();
        DUE.is("undo(), empty", x.undo(), KingsBanquet.NONE);
        x.announce(1, 1, 0);
        x.announce(2, 2, 0);
        DUE.is("two acts: count(15)", x.count(15), 2);
        DUE.is("undo()", x.undo(), 1);
        DUE.is("undo(): count(1)", x.count(1), 1);
        DUE.is("undo(): king(1, 0)", x.king(1, 0), KingsBanquet.UNKNOWN);
        DUE.is("undo() again", x.undo(), 0);
        DUE.is("undo() again: count(1)", x.count(1), 0);
        DUE.is("undo(), empty again", x.undo(), KingsBanquet.NONE);
        DUE.is("announce after it", x.announce(3, 3, 7), 0);
        DUE.is("announce after it: king(0, 0)", x.king(0, 0), 3);
        DUE.is("announce after it: king(0, 2)", x.king(0, 2), 7);
    }

    private static void promise11FourStates() {
        KingsBanquet x = new KingsBanquet();
        for (int minutes = 1; minutes <= 7; minutes++) {
            x.pass(minutes);
            DUE.is("states", x.count(15), Math.min(minutes, 4));
        }
        int[] minutes = {21, 15, 10, 6};
        for (int left = 3; left >= 0; left--) {
            DUE.is("undo(), of four", x.undo(), left);
            DUE.is("undo(): count(0)", x.count(0), minutes[3 - left]);
        }
        DUE.is("undo(), the oldest ones are dropped", x.undo(), KingsBanquet.NONE);
        DUE.is("undo(): count(0)", x.count(0), 6);
        x.pass(2);
        x.pass(3);
        DUE.is("undo() of new ones", x.undo(), 1);
        DUE.is("undo() of new ones: count(0)", x.count(0), 8);
    }

    private static void promise11AllOfTheState() {
        KingsBanquet x = new KingsBanquet();
        x.set(1, 2);
        x.set(3, 1);
        x.set(2, 1);
        x.set(0, 4);
        for (int king = 0; king < 6; king++) {
            x.announce(1 + king, 50, king / 2);
        }
        x.pass(1);
        int[] before = told(x);
        x.pass(9);
        x.undo();
        same("pass", before, told(x));
        x.set(1, 7);
        x.undo();
        same("set", before, told(x));
        x.leave(1);
        x.undo();
        same("leave", before, told(x));
    }

    /** No more kings than a run here has, so that an object stays within its 512 calls. */
    private static int[] told(KingsBanquet x) {
        int[] all = new int[15 + MOST_KINGS_HERE * 11];
        int at = 0;
        for (int what = 0; what <= 14; what++) {
            all[at++] = x.count(what);
        }
        for (int king = 0; king < MOST_KINGS_HERE; king++) {
            for (int what = 0; what <= 8; what++) {
                all[at++] = x.king(king, what);
            }
            all[at++] = x.waits(king);
            all[at++] = x.seat(king);
        }
        return all;
    }

    private static void same(String call, int[] before, int[] after) {
        for (int at = 0; at < before.length; at++) {
            DUE.is(call + " and undo(), number " + at, after[at], before[at]);
        }
    }

    private static void promise11Errors() {
        KingsBanquet x = new KingsBanquet();
        x.announce(0, 0, 0);
        x.leave(0);
        x.send(0);
        x.set(0, 8);
        x.set(0, 99);
        x.pass(0);
        x.perform();
        x.restore();
        x.type('k');
        x.clearText();
        x.keep();
        x.count(0);
        x.changesNeeded();
        DUE.is("errors, NONE and others are not recorded: count(15)", x.count(15), 0);
        x.pass(1);
        x.keep();
        DUE.is("an act with the answer 0 is recorded: count(15)", x.count(15), 1);
        x.undo();
        DUE.is("undo() is not recorded: count(15)", x.count(15), 0);
    }

    private static void promise12Keep() {
        KingsBanquet x = new KingsBanquet();
        DUE.is("keep(), empty table", x.keep(), 0);
        x.announce(1, 1, 0);
        x.announce(2, 1, 0);
        x.announce(3, 1, 2);
        DUE.is("keep(), announced", x.keep(), 0);
        x.pass(1);
        DUE.is("keep(), two sit", x.keep(), 2);
        x.set(0, 2);
        x.pass(2);
        DUE.is("keep(), one waits", x.keep(), 2);
        x.leave(0);
        DUE.is("keep(), one left", x.keep(), 1);
        DUE.is("keep() in place of the others: restore()", x.restore(), 1);
    }

    private static void promise13Restore() {
        KingsBanquet x = new KingsBanquet();
        DUE.is("restore(), no snapshot", x.restore(), KingsBanquet.NONE);
        DUE.is("restore(), no snapshot: count(15)", x.count(15), 0);
        x.announce(1, 1, 0);
        x.announce(2, 1, 0);
        x.pass(10);
        x.keep();
        int[] kept = told(x);
        x.set(1, 1);
        x.pass(40);
        x.leave(0);
        x.announce(7, 7, 70);
        DUE.is("restore()", x.restore(), 2);
        same("restore()", kept, told(x));
        x.leave(1);
        DUE.is("the snapshot stays: restore()", x.restore(), 2);
        same("the snapshot stays", kept, told(x));
    }

    private static void promise13RestoreIsAnAct() {
        KingsBanquet x = new KingsBanquet();
        x.keep();
        x.announce(1, 1, 0);
        x.pass(1);
        DUE.is("restore() of the first state", x.restore(), 0);
        DUE.is("restore(): count(1)", x.count(1), 0);
        DUE.is("restore(): count(15)", x.count(15), 3);
        DUE.is("restore(), undone", x.undo(), 2);
        DUE.is("restore(), undone: count(4)", x.count(4), 1);
        x.undo();
        x.undo();
        DUE.is("the snapshot is no state: restore()", x.restore(), 0);
        x.restore();
        DUE.is("restore() of the same state is an act: count(15)", x.count(15), 2);
    }
}
