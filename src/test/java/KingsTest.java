/** Promises 1 to 6: a new object, and the acts upon kings. */
public final class KingsTest {
    private static final Due DUE = new Due("KingsTest");

    public static void main(String[] args) {
        promise1New();
        promise2Announce();
        promise2AnnounceErrors();
        promise3Leave();
        promise4Send();
        promise5Set();
        promise5SetSeats();
        promise6Pass();
        promise6PassErrors();
        arrivals();
        precedence();
        hallAndTable();
        rounds();
        anger();
        angerAllAtOnce();
        angerOnlyIfStillSlighted();
        envoysFromTheHead();
        DUE.end();
    }

    private static void promise1New() {
        KingsBanquet x = new KingsBanquet();
        int[] accounts = {0, 0, 0, 0, 0, 0, 0, 0, 0, 0, 0, 8, 10, 3, 4, 0, 0};
        for (int what = 0; what < accounts.length; what++) {
            DUE.is("new: count(" + what + ")", x.count(what), accounts[what]);
        }
        DUE.is("new: seat(0)", x.seat(0), KingsBanquet.NONE);
        DUE.is("new: waits(0)", x.waits(0), KingsBanquet.NONE);
        DUE.is("new: king(0, 0)", x.king(0, 0), KingsBanquet.UNKNOWN);
        DUE.is("new: undo()", x.undo(), KingsBanquet.NONE);
        DUE.is("new: restore()", x.restore(), KingsBanquet.NONE);
        DUE.is("new: stopped(0)", x.stopped(0), KingsBanquet.NONE);
        DUE.is("new: nextArrival()", x.nextArrival(), KingsBanquet.NONE);
        KingsBanquet other = new KingsBanquet();
        x.announce(1, 1, 0);
        DUE.is("new: another object", other.count(1), 0);
    }

    private static void promise2Announce() {
        KingsBanquet x = new KingsBanquet();
        DUE.is("announce(1, 0, 0)", x.announce(1, 0, 0), 0);
        DUE.is("announce(9, 120, 9999)", x.announce(9, 120, 9999), 1);
        int[] facts = {9, 120, 9999, 0, KingsBanquet.NONE, KingsBanquet.NONE, 0, 0, 0};
        for (int what = 0; what < facts.length; what++) {
            DUE.is("announced: king(1, " + what + ")", x.king(1, what), facts[what]);
        }
        DUE.is("announced: count(15)", x.count(15), 2);
        x.pass(3);
        DUE.is("announce for this minute", x.announce(5, 5, 3), 2);
        DUE.is("announce for the next minute", x.announce(5, 5, 4), 3);
        x.pass(1);
        DUE.is("for this minute: king(2, 3)", x.king(2, 3), 2);
        DUE.is("for the next minute: king(3, 3)", x.king(3, 3), 0);
    }

    private static void promise2AnnounceErrors() {
        KingsBanquet x = new KingsBanquet();
        x.pass(2);
        int[][] bad = {{0, 5, 5}, {10, 5, 5}, {5, -1, 5}, {5, 121, 5}, {5, 5, -1}, {5, 5, 10000}, {0, 5, 1}};
        for (int[] call : bad) {
            DUE.is("bad announce", x.announce(call[0], call[1], call[2]), KingsBanquet.BAD_VALUE);
        }
        DUE.is("announce, passed", x.announce(5, 5, 1), KingsBanquet.NOT_POSSIBLE);
        DUE.is("bad announce: count(1)", x.count(1), 0);
        DUE.is("bad announce: count(15)", x.count(15), 1);
        for (int king = 0; king < 24; king++) {
            DUE.is("announce", x.announce(5, 5, 9999), king);
        }
        DUE.is("announce, full", x.announce(5, 5, 9999), KingsBanquet.FULL);
        DUE.is("announce, full and passed", x.announce(5, 5, 1), KingsBanquet.NOT_POSSIBLE);
        DUE.is("announce, full and bad", x.announce(5, 5, 10000), KingsBanquet.BAD_VALUE);
        x.leave(3);
        DUE.is("announce, full though one left", x.announce(5, 5, 9999), KingsBanquet.FULL);
        DUE.is("announce, full: count(1)", x.count(1), 24);
    }

    /** Kings of the crowns 1, 2, 3 .. in that order from the head down; envoys and anger are far away. */
    private static KingsBanquet climbing(int kings) {
        KingsBanquet x = new KingsBanquet();
        x.set(0, 12);
        x.set(1, 60);
        for (int king = 0; king < kings; king++) {
            x.announce(1 + king % 9, 10 * (king / 9), king);
        }
        x.pass(kings);
        return x;
    }

    private static void promise3Leave() {
        KingsBanquet x = new KingsBanquet();
        x.set(0, 3);
        for (int king = 0; king < 6; king++) {
            x.announce(9 - king, 1, king == 5 ? 50 : 0);
        }
        x.pass(1);
        DUE.is("leave(1), sits", x.leave(1), 2);
        DUE.is("leave(1): seat(0)", x.seat(0), 0);
        DUE.is("leave(1): seat(1)", x.seat(1), 2);
        DUE.is("leave(1): seat(2)", x.seat(2), KingsBanquet.NONE);
        DUE.is("leave(1): king(1, 3)", x.king(1, 3), 3);
        DUE.is("leave(1): king(1, 4)", x.king(1, 4), KingsBanquet.NONE);
        DUE.is("leave(1): king(1, 8)", x.king(1, 8), 0);
        DUE.is("leave(3), waits", x.leave(3), 1);
        DUE.is("leave(3): waits(0)", x.waits(0), 4);
        DUE.is("leave(3): waits(1)", x.waits(1), KingsBanquet.NONE);
        DUE.is("leave(3): king(4, 5)", x.king(4, 5), 0);
        DUE.is("leave(5), announced", x.leave(5), 0);
        DUE.is("leave(5): nextArrival()", x.nextArrival(), KingsBanquet.NONE);
        DUE.is("leave(5) again", x.leave(5), KingsBanquet.NOT_POSSIBLE);
        DUE.is("leave(1) again", x.leave(1), KingsBanquet.NOT_POSSIBLE);
        DUE.is("leave(6)", x.leave(6), KingsBanquet.UNKNOWN);
        DUE.is("leave(-1)", x.leave(-1), KingsBanquet.UNKNOWN);
        DUE.is("left: count(5)", x.count(5), 3);
        DUE.is("left: count(6)", x.count(6), 0);
        x.pass(60);
        DUE.is("who left does not come: count(5)", x.count(5), 3);
        DUE.is("the free seat is taken: seat(2)", x.seat(2), 4);
    }

    private static void promise4Send() {
        KingsBanquet x = climbing(3);
        int states = x.count(15);
        DUE.is("send(2), nobody below", x.send(2), KingsBanquet.UNKNOWN);
        DUE.is("send(3), nobody there", x.send(3), KingsBanquet.UNKNOWN);
        DUE.is("send(-1)", x.send(-1), KingsBanquet.UNKNOWN);
        DUE.is("send(12)", x.send(12), KingsBanquet.UNKNOWN);
        DUE.is("send(1)", x.send(1), 2);
        DUE.is("send(1): seat(0)", x.seat(0), 0);
        DUE.is("send(1): seat(1)", x.seat(1), 2);
        DUE.is("send(1): seat(2)", x.seat(2), 1);
        DUE.is("send(1): count(10)", x.count(10), 1);
        DUE.is("send(1) again", x.send(1), KingsBanquet.NOT_POSSIBLE);
        DUE.is("send(0)", x.send(0), 2);
        DUE.is("send(0): count(10)", x.count(10), 2);
        DUE.is("send: count(9)", x.count(9), 0);
        DUE.is("send: count(15)", x.count(15), states);
        x.undo();
        DUE.is("send, undone: count(10)", x.count(10), 1);
    }

    private static void promise5Set() {
        int[] first = {8, 10, 3, 4};
        int[] least = {1, 1, 0, 1};
        int[] most = {12, 60, 9, 9};
        for (int which = 0; which < 4; which++) {
            KingsBanquet x = new KingsBanquet();
            DUE.is("set, too little", x.set(which, least[which] - 1), KingsBanquet.BAD_VALUE);
            DUE.is("set, too much", x.set(which, most[which] + 1), KingsBanquet.BAD_VALUE);
            DUE.is("set, as it is", x.set(which, first[which]), KingsBanquet.NONE);
            DUE.is("set: count(15)", x.count(15), 0);
            DUE.is("set to the least", x.set(which, least[which]), first[which]);
            DUE.is("set to the most", x.set(which, most[which]), least[which]);
            DUE.is("set: count of it", x.count(11 + which), most[which]);
            DUE.is("set: count(15)", x.count(15), 2);
        }
        KingsBanquet x = new KingsBanquet();
        DUE.is("set(-1, 99)", x.set(-1, 99), KingsBanquet.UNKNOWN);
        DUE.is("set(4, 1)", x.set(4, 1), KingsBanquet.UNKNOWN);
    }

    private static void promise5SetSeats() {
        KingsBanquet x = climbing(3);
        DUE.is("set(0, 2), three sit", x.set(0, 2), KingsBanquet.NOT_POSSIBLE);
        DUE.is("set(0, 0), three sit", x.set(0, 0), KingsBanquet.BAD_VALUE);
        DUE.is("set(0, 3), three sit", x.set(0, 3), 12);
        DUE.is("set(0, 3) again", x.set(0, 3), KingsBanquet.NONE);
        DUE.is("set(1, 2), three sit", x.set(1, 2), 60);
        DUE.is("set(2, 1), three sit", x.set(2, 1), 3);
        DUE.is("set(3, 1), three sit", x.set(3, 1), 4);
    }

    private static void promise6Pass() {
        KingsBanquet x = new KingsBanquet();
        DUE.is("pass(9)", x.pass(9), 0);
        DUE.is("pass(1), the tenth", x.pass(1), 1);
        DUE.is("pass(99)", x.pass(99), 9);
        DUE.is("pass: count(0)", x.count(0), 109);
        DUE.is("pass: count(7)", x.count(7), 10);
        DUE.is("pass: count(8)", x.count(8), 0);
        DUE.is("pass: count(15)", x.count(15), 3);
        x.set(1, 1);
        DUE.is("pass(99), a round a minute", x.pass(99), 99);
        x.set(1, 60);
        DUE.is("pass(31), till 239", x.pass(31), 0);
        DUE.is("pass(1), till 240", x.pass(1), 1);
    }

    private static void promise6PassErrors() {
        KingsBanquet x = new KingsBanquet();
        DUE.is("pass(0)", x.pass(0), KingsBanquet.BAD_VALUE);
        DUE.is("pass(-1)", x.pass(-1), KingsBanquet.BAD_VALUE);
        DUE.is("pass(100)", x.pass(100), KingsBanquet.BAD_VALUE);
        for (char sign : ".99;.99;.99;.99;.99;.99;.99;.99;.99;.99;.99;.99;.99;.99;.99".toCharArray()) {
            x.type(sign);
        }
        for (int time = 0; time < 67; time++) {
            DUE.is("perform of minutes", x.perform(), 15);
        }
        DUE.is("perform beyond the end", x.perform(), KingsBanquet.NOT_POSSIBLE);
        DUE.is("perform beyond the end: stopped(0)", x.stopped(0), 5);
        DUE.is("perform beyond the end: stopped(1)", x.stopped(1), KingsBanquet.FULL);
        for (int time = 0; time < 5; time++) {
            DUE.is("pass(99) near the end", x.pass(99) >= 0 ? 1 : 0, 1);
        }
        DUE.is("near the end: count(0)", x.count(0), 99990);
        DUE.is("pass(10) beyond the end", x.pass(10), KingsBanquet.FULL);
        DUE.is("pass(100) beyond the end", x.pass(100), KingsBanquet.BAD_VALUE);
        DUE.is("pass(9) to the end", x.pass(9), 0);
        DUE.is("at the end: count(0)", x.count(0), 99999);
        DUE.is("pass(1) at the end", x.pass(1), KingsBanquet.FULL);
    }

    private static void arrivals() {
        KingsBanquet x = new KingsBanquet();
        x.announce(5, 30, 1);
        x.announce(5, 30, 1);
        x.announce(5, 31, 1);
        x.announce(6, 0, 1);
        x.announce(9, 9, 2);
        x.pass(1);
        DUE.is("before: count(4)", x.count(4), 0);
        x.pass(1);
        int[] seats = {3, 2, 0, 1, KingsBanquet.NONE};
        for (int seat = 0; seat < seats.length; seat++) {
            DUE.is("arrived: seat(" + seat + ")", x.seat(seat), seats[seat]);
        }
        x.pass(1);
        DUE.is("at the foot: seat(4)", x.seat(4), 4);
        DUE.is("at the foot: king(4, 4)", x.king(4, 4), 4);
    }

    private static void precedence() {
        KingsBanquet x = new KingsBanquet();
        int[][] kings = {{5, 120}, {6, 0}, {1, 120}, {9, 0}, {5, 119}, {2, 0}, {6, 0}, {5, 120}, {8, 120}};
        int[] order = {3, 8, 1, 6, 0, 7, 4, 5, 2};
        x.set(0, 12);
        for (int[] king : kings) {
            x.announce(king[0], king[1], 0);
        }
        x.pass(1);
        for (int seat = 0; seat < order.length; seat++) {
            DUE.is("precedence: seat(" + seat + ")", x.seat(seat), order[seat]);
        }
        KingsBanquet y = new KingsBanquet();
        for (int king = 0; king < 24; king++) {
            y.announce(5, king == 0 ? 49 : 50, 0);
        }
        y.pass(1);
        DUE.is("an older one of a high number: seat(0)", y.seat(0), 1);
        DUE.is("the youngest one is the last one: waits(15)", y.waits(15), 0);
        DUE.is("before him the highest number: waits(14)", y.waits(14), 23);
    }

    private static void hallAndTable() {
        KingsBanquet x = new KingsBanquet();
        x.set(0, 1);
        x.announce(1, 1, 0);
        x.announce(2, 1, 0);
        x.announce(9, 1, 1);
        x.pass(2);
        DUE.is("hall: seat(0)", x.seat(0), 1);
        DUE.is("hall: waits(0), who came first", x.waits(0), 0);
        DUE.is("hall: waits(1)", x.waits(1), 2);
        DUE.is("hall: king(2, 5)", x.king(2, 5), 1);
        DUE.is("hall: king(2, 4)", x.king(2, 4), KingsBanquet.NONE);
        DUE.is("hall: king(2, 3)", x.king(2, 3), 1);
        x.set(0, 2);
        DUE.is("set alone seats nobody: seat(1)", x.seat(1), KingsBanquet.NONE);
        x.pass(1);
        DUE.is("more seats: seat(1)", x.seat(1), 0);
        DUE.is("more seats: waits(0)", x.waits(0), 2);
        x.leave(1);
        DUE.is("moved up: seat(0)", x.seat(0), 0);
        DUE.is("leave alone seats nobody: seat(1)", x.seat(1), KingsBanquet.NONE);
        x.pass(1);
        DUE.is("free again: seat(1)", x.seat(1), 2);
    }

    private static void rounds() {
        KingsBanquet x = climbing(4);
        x.set(2, 0);
        x.set(1, 1);
        DUE.is("a round", x.pass(1), 1);
        int[] slights = {0, 1, 1, 1};
        for (int king = 0; king < 4; king++) {
            DUE.is("a round: king(" + king + ", 6)", x.king(king, 6), 1);
            DUE.is("a round: king(" + king + ", 7)", x.king(king, 7), slights[king]);
            DUE.is("no envoys: seat(" + king + ")", x.seat(king), king);
        }
        DUE.is("a round: count(8)", x.count(8), 4);
        DUE.is("a round: count(9)", x.count(9), 3);
        x.announce(1, 1, 5);
        x.pass(1);
        DUE.is("who sits down in this minute is toasted", x.king(4, 6), 1);
        DUE.is("a lesser one far above slights", x.king(4, 7), 1);
        DUE.is("two rounds: count(8)", x.count(8), 9);
        DUE.is("two rounds: count(10)", x.count(10), 0);
    }

    private static void anger() {
        KingsBanquet x = climbing(2);
        x.set(1, 1);
        x.set(2, 0);
        x.set(3, 2);
        x.pass(1);
        DUE.is("slighted once: king(1, 3)", x.king(1, 3), 2);
        x.pass(1);
        DUE.is("slighted twice: king(1, 3)", x.king(1, 3), 3);
        DUE.is("slighted twice: king(1, 8)", x.king(1, 8), 1);
        DUE.is("slighted twice: king(1, 4)", x.king(1, 4), KingsBanquet.NONE);
        DUE.is("slighted twice: king(1, 7)", x.king(1, 7), 2);
        DUE.is("in anger: count(6)", x.count(6), 1);
        DUE.is("in anger: count(5)", x.count(5), 1);
        DUE.is("in anger: leave(1)", x.leave(1), KingsBanquet.NOT_POSSIBLE);
        x.pass(1);
        DUE.is("gone: king(1, 6)", x.king(1, 6), 2);
        DUE.is("gone: count(8)", x.count(8), 5);
        DUE.is("gone: count(9)", x.count(9), 2);
    }

    private static void angerAllAtOnce() {
        KingsBanquet x = climbing(4);
        x.set(1, 1);
        x.set(2, 0);
        x.set(3, 1);
        x.announce(1, 0, 5);
        x.pass(1);
        DUE.is("all at once: count(6)", x.count(6), 3);
        DUE.is("all at once: seat(0)", x.seat(0), 0);
        DUE.is("all at once: seat(1)", x.seat(1), KingsBanquet.NONE);
        x.pass(1);
        DUE.is("the next one: seat(1)", x.seat(1), 4);
        DUE.is("like kings slight by number: king(4, 7)", x.king(4, 7), 0);
        KingsBanquet y = climbing(2);
        y.set(1, 1);
        y.set(2, 0);
        y.set(3, 9);
        y.pass(3);
        y.set(3, 2);
        y.pass(1);
        DUE.is("more often than told: king(1, 8)", y.king(1, 8), 1);
        DUE.is("more often than told: king(1, 7)", y.king(1, 7), 4);
    }

    private static void angerOnlyIfStillSlighted() {
        KingsBanquet x = climbing(3);
        x.set(1, 1);
        x.set(2, 2);
        x.set(3, 1);
        x.pass(1);
        // 0 1 2 becomes 1 0 2, then 1 2 0: then 2 is below the lesser 1 still, 1 is not below a lesser one.
        DUE.is("still: king(1, 8)", x.king(1, 8), 0);
        DUE.is("still: king(1, 7)", x.king(1, 7), 1);
        DUE.is("still: king(2, 8)", x.king(2, 8), 1);
        DUE.is("still: seat(0)", x.seat(0), 1);
        DUE.is("still: seat(1)", x.seat(1), 0);
        DUE.is("still: count(10)", x.count(10), 2);
        x.pass(5);
        DUE.is("nobody slights him now: king(1, 3)", x.king(1, 3), 2);
        DUE.is("the envoys rest: count(10)", x.count(10), 2);
    }

    private static void envoysFromTheHead() {
        KingsBanquet x = climbing(4);
        x.set(3, 9);
        x.set(2, 1);
        x.set(1, 1);
        int[][] tables = {{1, 0, 2, 3}, {1, 2, 0, 3}, {2, 1, 0, 3}, {2, 1, 3, 0}, {2, 3, 1, 0}, {3, 2, 1, 0}};
        for (int[] table : tables) {
            x.pass(1);
            for (int seat = 0; seat < 4; seat++) {
                DUE.is("envoys: seat(" + seat + ")", x.seat(seat), table[seat]);
            }
        }
        x.pass(1);
        DUE.is("in order: count(10)", x.count(10), 6);
        DUE.is("in order: count(6)", x.count(6), 0);
    }
}
