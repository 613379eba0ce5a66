/** Promises 14 to 25: what is told. */
public final class ToldTest {
    private static final Due DUE = new Due("ToldTest");

    public static void main(String[] args) {
        promise14King();
        promise15Seat();
        promise16Waits();
        promise17Reason();
        promise18DueIn();
        promise18DueInErrors();
        promise19DueSeat();
        promise20And21WrongPairs();
        promise22MostSlighted();
        promise23IfRounds();
        promise23NobodySitsDown();
        promise24NextArrival();
        promise25Count();
        nothingToldChangesAnything();
        whatIsToldAfterOtherCalls();
        actsAfterWhatWasTold();
        DUE.end();
    }

    /** Kings of the given crowns (all of the age 50) from the head down; no round was yet. */
    private static KingsBanquet table(int... crowns) {
        KingsBanquet x = new KingsBanquet();
        x.set(0, 12);
        x.set(1, 60);
        for (int king = 0; king < crowns.length; king++) {
            x.announce(crowns[king], 50, king);
        }
        x.pass(Math.max(crowns.length, 1));
        return x;
    }

    private static void promise14King() {
        KingsBanquet x = table(4, 6);
        x.announce(2, 3, 77);
        int[][] facts = {
            {4, 50, 0, 2, 0, KingsBanquet.NONE, 0, 0, 0},
            {6, 50, 1, 2, 1, KingsBanquet.NONE, 0, 0, 0},
            {2, 3, 77, 0, KingsBanquet.NONE, KingsBanquet.NONE, 0, 0, 0}
        };
        for (int king = 0; king < facts.length; king++) {
            for (int what = 0; what < 9; what++) {
                DUE.is("king(" + king + ", " + what + ")", x.king(king, what), facts[king][what]);
            }
        }
        DUE.is("king(-1, 0)", x.king(-1, 0), KingsBanquet.UNKNOWN);
        DUE.is("king(3, 0)", x.king(3, 0), KingsBanquet.UNKNOWN);
        DUE.is("king(24, 99)", x.king(24, 99), KingsBanquet.UNKNOWN);
        DUE.is("king(0, -1)", x.king(0, -1), KingsBanquet.BAD_VALUE);
        DUE.is("king(0, 9)", x.king(0, 9), KingsBanquet.BAD_VALUE);
        x.set(1, 1);
        x.set(3, 1);
        x.set(2, 0);
        x.pass(1);
        int[] angry = {6, 50, 1, 3, KingsBanquet.NONE, KingsBanquet.NONE, 1, 1, 1};
        for (int what = 0; what < 9; what++) {
            DUE.is("angry: king(1, " + what + ")", x.king(1, what), angry[what]);
        }
    }

    private static void promise15Seat() {
        KingsBanquet x = table(9, 9, 9);
        DUE.is("seat(0)", x.seat(0), 0);
        DUE.is("seat(2)", x.seat(2), 2);
        DUE.is("seat(3)", x.seat(3), KingsBanquet.NONE);
        DUE.is("seat(11)", x.seat(11), KingsBanquet.NONE);
        DUE.is("seat(12)", x.seat(12), KingsBanquet.UNKNOWN);
        DUE.is("seat(-1)", x.seat(-1), KingsBanquet.UNKNOWN);
        x.set(0, 3);
        DUE.is("seat(3), not at this table", x.seat(3), KingsBanquet.NONE);
        KingsBanquet full = table(9, 9, 9, 9, 9, 9, 9, 9, 9, 9, 9, 9, 9);
        DUE.is("full: seat(11)", full.seat(11), 11);
        DUE.is("full: waits(0)", full.waits(0), 12);
        DUE.is("full: count(4)", full.count(4), 12);
    }

    private static void promise16Waits() {
        KingsBanquet x = new KingsBanquet();
        x.set(0, 1);
        for (int king = 0; king < 24; king++) {
            x.announce(5, king, 0);
        }
        x.pass(1);
        DUE.is("seat(0)", x.seat(0), 23);
        for (int rank = 0; rank < 23; rank++) {
            DUE.is("waits(" + rank + ")", x.waits(rank), 22 - rank);
            DUE.is("his place", x.king(22 - rank, 5), rank);
        }
        DUE.is("waits(23)", x.waits(23), KingsBanquet.NONE);
        DUE.is("waits(1000)", x.waits(1000), KingsBanquet.NONE);
        DUE.is("waits(-1)", x.waits(-1), KingsBanquet.BAD_VALUE);
        x.leave(20);
        DUE.is("waits(2), moved up", x.waits(2), 19);
        DUE.is("waits(22)", x.waits(22), KingsBanquet.NONE);
    }

    private static void promise17Reason() {
        KingsBanquet x = new KingsBanquet();
        x.announce(5, 50, 0);
        x.announce(5, 50, 0);
        x.announce(5, 40, 0);
        x.announce(4, 99, 0);
        x.announce(9, 1, 1);
        x.announce(9, 2, 90);
        x.pass(2);
        DUE.is("reason(0, 3), the greater crown", x.reason(0, 3), 0);
        DUE.is("reason(0, 2), older", x.reason(0, 2), 3);
        DUE.is("reason(0, 1), the lower number", x.reason(0, 1), 4);
        DUE.is("reason(0, 4), the lesser king", x.reason(0, 4), 2);
        DUE.is("reason(4, 0), not above", x.reason(4, 0), 1);
        DUE.is("reason(1, 0), not above", x.reason(1, 0), 1);
        DUE.is("reason(5, 0), does not sit", x.reason(5, 0), 1);
        DUE.is("reason(0, 5), does not sit", x.reason(0, 5), 1);
        DUE.is("reason(6, 0)", x.reason(6, 0), KingsBanquet.UNKNOWN);
        DUE.is("reason(0, 6)", x.reason(0, 6), KingsBanquet.UNKNOWN);
        DUE.is("reason(-1, 0)", x.reason(-1, 0), KingsBanquet.UNKNOWN);
        DUE.is("reason(7, 7)", x.reason(7, 7), KingsBanquet.UNKNOWN);
        DUE.is("reason(0, 0)", x.reason(0, 0), KingsBanquet.BAD_VALUE);
        DUE.is("reason(5, 5)", x.reason(5, 5), KingsBanquet.BAD_VALUE);
        x.leave(0);
        DUE.is("reason(0, 3), left", x.reason(0, 3), 1);
        DUE.is("reason(3, 0), left", x.reason(3, 0), 1);
        KingsBanquet y = table(3, 3);
        y.leave(0);
        y.announce(3, 51, 20);
        y.announce(3, 50, 20);
        y.pass(20);
        DUE.is("a younger one above", y.reason(1, 2), 2);
        DUE.is("a lower number above", y.reason(1, 3), 4);
    }

    private static void promise18DueIn() {
        KingsBanquet x = table(1, 2, 3, 4, 5, 6, 7, 8, 9, 9, 9, 9);
        x.set(2, 1);
        int[] rounds = {0, 1, 3, 6, 10, 15, 21, 28, 36, 44, 52, 60};
        for (int king = 0; king < 12; king++) {
            DUE.is("dueIn(" + king + "), one envoy", x.dueIn(king), rounds[king]);
        }
        x.set(2, 9);
        for (int king = 0; king < 12; king++) {
            DUE.is("dueIn(" + king + "), nine envoys", x.dueIn(king), (rounds[king] + 8) / 9);
        }
        x.set(2, 0);
        DUE.is("dueIn(0), no envoys", x.dueIn(0), 0);
        DUE.is("dueIn(1), no envoys", x.dueIn(1), KingsBanquet.NONE);
        KingsBanquet y = table(1, 2, 3);
        y.set(2, 1);
        y.set(3, 1);
        DUE.is("dueIn(2), nobody is angry", y.dueIn(2), 3);
        DUE.is("dueIn(2), he waits not", y.dueIn(2), 3);
    }

    private static void promise18DueInErrors() {
        KingsBanquet x = new KingsBanquet();
        x.set(0, 1);
        x.announce(2, 2, 0);
        x.announce(1, 2, 0);
        x.announce(2, 2, 99);
        x.pass(1);
        DUE.is("dueIn(0)", x.dueIn(0), 0);
        DUE.is("dueIn(1), waits", x.dueIn(1), KingsBanquet.NOT_POSSIBLE);
        DUE.is("dueIn(2), announced", x.dueIn(2), KingsBanquet.NOT_POSSIBLE);
        x.leave(0);
        DUE.is("dueIn(0), left", x.dueIn(0), KingsBanquet.NOT_POSSIBLE);
        DUE.is("dueIn(3)", x.dueIn(3), KingsBanquet.UNKNOWN);
        DUE.is("dueIn(-1)", x.dueIn(-1), KingsBanquet.UNKNOWN);
    }

    private static void promise19DueSeat() {
        KingsBanquet x = table(3, 8, 5);
        x.announce(9, 9, 50);
        DUE.is("dueSeat(9, 0)", x.dueSeat(9, 0), 0);
        DUE.is("dueSeat(8, 51)", x.dueSeat(8, 51), 0);
        DUE.is("dueSeat(8, 50), the greater number", x.dueSeat(8, 50), 1);
        DUE.is("dueSeat(8, 49)", x.dueSeat(8, 49), 1);
        DUE.is("dueSeat(5, 120)", x.dueSeat(5, 120), 1);
        DUE.is("dueSeat(5, 0)", x.dueSeat(5, 0), 2);
        DUE.is("dueSeat(3, 51)", x.dueSeat(3, 51), 2);
        DUE.is("dueSeat(3, 50)", x.dueSeat(3, 50), 3);
        DUE.is("dueSeat(1, 120)", x.dueSeat(1, 120), 3);
        int[][] bad = {{0, 0}, {10, 0}, {1, -1}, {1, 121}};
        for (int[] call : bad) {
            DUE.is("bad dueSeat", x.dueSeat(call[0], call[1]), KingsBanquet.BAD_VALUE);
        }
        KingsBanquet full = table(5, 5, 5, 5, 5, 5, 5, 5, 5, 5, 5, 5);
        DUE.is("full: dueSeat(5, 50)", full.dueSeat(5, 50), 12);
        DUE.is("full: dueSeat(5, 51)", full.dueSeat(5, 51), 0);
        for (int king = 12; king < 24; king++) {
            full.announce(5, 50, 99);
        }
        DUE.is("24 kings: dueSeat(5, 50)", full.dueSeat(5, 50), 12);
        full.leave(3);
        DUE.is("one left: dueSeat(5, 50)", full.dueSeat(5, 50), 11);
        for (int king = 0; king < 11; king++) {
            full.leave(king == 3 ? 11 : king);
        }
        full.pass(88);
        DUE.is("the numbers 12 to 23 sit: dueSeat(5, 51)", full.dueSeat(5, 51), 0);
        DUE.is("the numbers 12 to 23 sit: dueSeat(5, 50)", full.dueSeat(5, 50), full.count(4));
    }

    private static void promise20And21WrongPairs() {
        int[][] tables = {
            {}, {5}, {5, 5}, {4, 5}, {5, 4}, {1, 2, 3}, {3, 1, 2}, {2, 2, 3, 3, 1},
            {1, 2, 3, 4, 5, 6, 7, 8, 9}, {9, 8, 7, 6, 5, 4, 3, 2, 1}, {5, 1, 9, 2, 9, 1}
        };
        int[] wrong = {0, 0, 0, 1, 0, 3, 1, 4, 36, 0, 6};
        for (int at = 0; at < tables.length; at++) {
            KingsBanquet x = table(tables[at]);
            DUE.is("table " + at + ": wrongPairs()", x.wrongPairs(), wrong[at]);
            DUE.is("table " + at + ": changesNeeded()", x.changesNeeded(), wrong[at]);
        }
        KingsBanquet x = new KingsBanquet();
        x.set(0, 12);
        x.set(1, 60);
        for (int king = 0; king < 12; king++) {
            x.announce(5, king, king);
        }
        x.pass(12);
        DUE.is("twelve, all wrong: wrongPairs()", x.wrongPairs(), 66);
        DUE.is("twelve, all wrong: changesNeeded()", x.changesNeeded(), 66);
        x.set(2, 0);
        DUE.is("without envoys in rounds: changesNeeded()", x.changesNeeded(), 66);
    }

    private static void promise22MostSlighted() {
        KingsBanquet x = table(1, 2, 3);
        DUE.is("mostSlighted(), nobody", x.mostSlighted(), KingsBanquet.NONE);
        x.set(1, 1);
        x.set(2, 0);
        x.set(3, 9);
        x.pass(1);
        DUE.is("mostSlighted(), nearest to the head", x.mostSlighted(), 1);
        x.send(1);
        DUE.is("mostSlighted(), after a change", x.mostSlighted(), 2);
        x.send(0);
        x.pass(1);
        DUE.is("mostSlighted(), more often", x.mostSlighted(), 1);
        DUE.is("mostSlighted(): king(1, 7)", x.king(1, 7), 2);
        x.leave(1);
        DUE.is("mostSlighted(), he left", x.mostSlighted(), 2);
        x.leave(2);
        DUE.is("mostSlighted(), both left", x.mostSlighted(), KingsBanquet.NONE);
        DUE.is("mostSlighted(), empty", new KingsBanquet().mostSlighted(), KingsBanquet.NONE);
    }

    private static void promise23IfRounds() {
        KingsBanquet x = table(1, 2, 3, 4);
        x.set(2, 0);
        DUE.is("ifRounds(0)", x.ifRounds(0), KingsBanquet.BAD_VALUE);
        DUE.is("ifRounds(-1)", x.ifRounds(-1), KingsBanquet.BAD_VALUE);
        DUE.is("ifRounds(31)", x.ifRounds(31), KingsBanquet.BAD_VALUE);
        DUE.is("ifRounds(3)", x.ifRounds(3), 0);
        DUE.is("ifRounds(4)", x.ifRounds(4), 3);
        DUE.is("ifRounds(30)", x.ifRounds(30), 3);
        x.set(2, 9);
        DUE.is("ifRounds(30), nine envoys", x.ifRounds(30), 0);
        x.set(2, 1);
        x.set(3, 2);
        DUE.is("ifRounds(1), one envoy", x.ifRounds(1), 0);
        // 1 0 2 3, then 1 2 0 3: the kings 2 and 3 are slighted twice, and 1 is slighted once.
        DUE.is("ifRounds(2), one envoy", x.ifRounds(2), 2);
        x.set(1, 1);
        x.pass(1);
        DUE.is("ifRounds(1), slighted before", x.ifRounds(1), 2);
        x.pass(1);
        DUE.is("left in anger: count(6)", x.count(6), 2);
        DUE.is("ifRounds(30), who left before is not told", x.ifRounds(30), 0);
    }

    private static void promise23NobodySitsDown() {
        KingsBanquet x = new KingsBanquet();
        x.set(0, 2);
        x.set(1, 60);
        x.set(2, 0);
        x.set(3, 1);
        x.announce(1, 1, 0);
        x.announce(2, 1, 1);
        x.announce(3, 1, 2);
        x.announce(4, 1, 3);
        x.pass(3);
        DUE.is("one waits: count(3)", x.count(3), 1);
        DUE.is("who waits does not sit down: ifRounds(30)", x.ifRounds(30), 1);
        DUE.is("ifRounds: count(7)", x.count(7), 0);
    }

    private static void promise24NextArrival() {
        KingsBanquet x = new KingsBanquet();
        DUE.is("nextArrival(), no kings", x.nextArrival(), KingsBanquet.NONE);
        x.announce(1, 1, 9999);
        DUE.is("nextArrival(), far away", x.nextArrival(), 9999);
        x.announce(1, 1, 7);
        x.announce(1, 1, 5);
        x.announce(1, 1, 7);
        DUE.is("nextArrival()", x.nextArrival(), 5);
        x.pass(5);
        DUE.is("nextArrival(), this one", x.nextArrival(), 5);
        x.pass(1);
        DUE.is("nextArrival(), later", x.nextArrival(), 7);
        x.leave(1);
        DUE.is("nextArrival(), one does not come", x.nextArrival(), 7);
        x.leave(3);
        DUE.is("nextArrival(), both do not come", x.nextArrival(), 9999);
        x.leave(0);
        DUE.is("nextArrival(), none", x.nextArrival(), KingsBanquet.NONE);
        x.announce(1, 1, 6);
        DUE.is("nextArrival(), this minute", x.nextArrival(), 6);
        KingsBanquet y = new KingsBanquet();
        y.announce(1, 1, 0);
        DUE.is("nextArrival(), the minute 0", y.nextArrival(), 0);
    }

    private static void promise25Count() {
        KingsBanquet x = new KingsBanquet();
        x.set(0, 3);
        x.set(1, 2);
        x.set(2, 1);
        x.set(3, 1);
        for (int king = 0; king < 5; king++) {
            x.announce(1 + king, 0, king / 2);
        }
        x.announce(1, 1, 100);
        x.leave(0);
        x.type('k');
        x.type('k');
        x.pass(3);
        // Minute 0: 1 sits. 1: 3 and 2 sit, a round: 1 3 2 becomes 3 1 2, and 2 leaves. 2: 4 sits.
        int[] accounts = {3, 6, 1, 0, 3, 2, 1, 1, 3, 2, 1, 3, 2, 1, 1, 4, 2};
        for (int what = 0; what < accounts.length; what++) {
            DUE.is("count(" + what + ")", x.count(what), accounts[what]);
        }
        DUE.is("count(-1)", x.count(-1), KingsBanquet.BAD_VALUE);
        DUE.is("count(17)", x.count(17), KingsBanquet.BAD_VALUE);
        x.set(0, 12);
        x.announce(9, 1, 3);
        x.set(0, 3);
        x.set(1, 60);
        x.pass(1);
        DUE.is("one waits: count(3)", x.count(3), 1);
        DUE.is("one waits: count(2)", x.count(2), 1);
    }

    private static void nothingToldChangesAnything() {
        KingsBanquet x = table(1, 2, 3, 4);
        x.set(2, 1);
        int before = x.count(15);
        x.dueIn(3);
        x.changesNeeded();
        x.ifRounds(30);
        x.wrongPairs();
        x.mostSlighted();
        x.dueSeat(5, 5);
        int[] accounts = {4, 4, 0, 0, 4, 0, 0, 0, 0, 0, 0, 12, 60, 1, 4, before, 0};
        for (int what = 0; what < accounts.length; what++) {
            DUE.is("nothing changed: count(" + what + ")", x.count(what), accounts[what]);
        }
        for (int seat = 0; seat < 4; seat++) {
            DUE.is("nothing changed: seat(" + seat + ")", x.seat(seat), seat);
        }
    }

    private static void whatIsToldAfterOtherCalls() {
        KingsBanquet x = table(1, 2, 3, 4);
        x.set(3, 1);
        x.set(2, 0);
        DUE.is("ifRounds(1)", x.ifRounds(1), 3);
        DUE.is("ifRounds(1) after ifRounds()", x.ifRounds(1), 3);
        DUE.is("changesNeeded() after ifRounds()", x.changesNeeded(), 6);
        DUE.is("changesNeeded() after itself", x.changesNeeded(), 6);
        DUE.is("ifRounds(1) after changesNeeded()", x.ifRounds(1), 3);
        DUE.is("dueIn(3) after ifRounds()", x.dueIn(3), KingsBanquet.NONE);
        x.set(2, 6);
        DUE.is("dueIn(3)", x.dueIn(3), 1);
        DUE.is("dueIn(3) after itself", x.dueIn(3), 1);
        DUE.is("changesNeeded() after dueIn()", x.changesNeeded(), 6);
        x.undo();
        DUE.is("ifRounds(1) after undo()", x.ifRounds(1), 3);
    }

    private static void actsAfterWhatWasTold() {
        for (int act = 0; act < 6; act++) {
            KingsBanquet x = table(1, 2, 3, 4);
            x.set(3, 1);
            x.set(2, 0);
            x.ifRounds(3);
            int answer = 0;
            switch (act) {
                case 0:
                    answer = x.announce(5, 5, 50) - 4;
                    break;
                case 1:
                    x.announce(5, 5, 50);
                    x.ifRounds(3);
                    answer = x.leave(4);
                    break;
                case 2:
                    answer = x.send(2) - 3;
                    break;
                case 3:
                    answer = x.set(1, 30) - 60;
                    break;
                case 4:
                    answer = x.pass(5);
                    break;
                default:
                    x.type('.');
                    x.type('5');
                    answer = x.perform() - 1;
            }
            DUE.is("act " + act + " after ifRounds()", answer, 0);
            DUE.is("act " + act + " after ifRounds(): count(4)", x.count(4), 4);
            DUE.is("act " + act + " after ifRounds(): count(7)", x.count(7), 0);
        }
    }
}
