/** The sentences of the document's section Terms (and the one ahead of it) that name a boundary case. */
public final class TermsEdgesTest {
    private static final Due DUE = new Due("TermsEdgesTest");

    public static void main(String[] args) {
        callsOfAnObject();
        kingsEver();
        kingsEverInTexts();
        crownAgeAndMinute();
        greaterCrown();
        older();
        lowerNumber();
        whatAKingDoes();
        firstMinute();
        seatsAtFirst();
        leastSeats();
        mostSeats();
        withoutAGap();
        behindTheLastOne();
        arrivesInHisMinute();
        arrivesInTheLastMinute();
        greaterOnesArriveFirst();
        waitersSitDown();
        asLongAsThereAreSeats();
        firstRound();
        roundEachMinute();
        roundEachHour();
        toasted();
        nobodyToToast();
        slightedFromAnywhere();
        slightedOnce();
        threeEnvoysAtFirst();
        noEnvoys();
        oneEnvoy();
        nineEnvoys();
        envoysGoFromTheHead();
        envoysRest();
        patienceAtFirst();
        leastPatience();
        mostPatience();
        moreOftenThanTold();
        lesserOneAboveStill();
        allAtOnce();
        seatedInTheNextMinute();
        sixtyCharacters();
        crownsInTexts();
        agesInTexts();
        minutesOfArrivalInTexts();
        kingsInTexts();
        minutesInTexts();
        zerosInFront();
        faultAtItsPlace();
        faultAtTheEnd();
        faultOfALongText();
        fourStates();
        statesWrittenOver();
        noSnapshotAtFirst();
        whatIsNoState();
        orderOfChecks();
        noneOnlyIfNoError();
        refusedPerform();
        DUE.end();
    }

    private static Run run(String sentence) {
        return new Run(DUE, sentence);
    }

    private static void callsOfAnObject() {
        // These calls have to be the object's only ones, so that there is no Run here.
        KingsBanquet x = new KingsBanquet();
        for (int call = 0; call < 256; call++) {
            DUE.is("At most 512 calls: pass(1)", x.pass(1), call % 10 == 9 ? 1 : 0);
            DUE.is("At most 512 calls: count(0)", x.count(0), call + 1);
        }
        // What later calls answer is free, but they may not throw.
        for (int call = 0; call < 64; call++) {
            x.announce(5, 5, 999);
            x.pass(99);
            x.undo();
            x.perform();
        }
    }

    private static void kingsEver() {
        Run run = run("At most 24 kings are announced ever, numbered from 0.");
        run.unknown("king(0, 0)");
        for (int king = 0; king < 24; king++) {
            run.is("announce(5, 50, 0)", king).is("count(1)", king + 1).is("king(" + king + ", 0)", 5);
        }
        run.full("announce(5, 50, 0)").is("count(1)", 24).unknown("king(24, 0)");
        run.is("leave(0)", 0).full("announce(5, 50, 0)").is("count(1)", 24);
        run.is("undo()", 3).is("undo()", 2).is("count(1)", 23).unknown("king(23, 0)");
        run.is("announce(9, 9, 1)", 23).is("king(23, 0)", 9).full("announce(9, 9, 1)");
        run = run("At most 24 kings are announced ever, those who left among them.");
        for (int king = 0; king < 24; king++) {
            run.is("announce(5, 50, 0)", king).is("leave(" + king + ")", 0);
        }
        run.full("announce(5, 50, 0)").is("count(5)", 24).none("nextArrival()");
    }

    private static void kingsEverInTexts() {
        Run run = run("At most 24 kings are announced ever, by texts, too.");
        for (int king = 0; king < 22; king++) {
            run.is("announce(5, 50, 0)", king);
        }
        run.text("k1.1@0;k1.2@0").is("perform()", 2).is("count(1)", 24);
        run.is("undo()", 3).is("count(1)", 22);
        run.typed(";k1.3@0").notPossible("perform()").is("stopped(0)", 2).is("stopped(1)", KingsBanquet.FULL);
        run.is("count(1)", 22);
    }

    private static void crownAgeAndMinute() {
        Run run = run("A king has a crown (1 to 9), an age (0 to 120), and a minute at which he arrives.");
        run.badValue("announce(0, 50, 0)").is("announce(1, 50, 0)", 0);
        run.is("announce(9, 50, 0)", 1).badValue("announce(10, 50, 0)");
        run.badValue("announce(5, -1, 0)").is("announce(5, 0, 0)", 2);
        run.is("announce(5, 120, 0)", 3).badValue("announce(5, 121, 0)");
        run.badValue("announce(5, 50, -1)").is("announce(5, 50, 0)", 4);
        run.is("announce(5, 50, 9999)", 5).badValue("announce(5, 50, 10000)");
        int[][] facts = {{1, 50, 0}, {9, 50, 0}, {5, 0, 0}, {5, 120, 0}, {5, 50, 0}, {5, 50, 9999}};
        for (int king = 0; king < facts.length; king++) {
            for (int what = 0; what < 3; what++) {
                run.is("king(" + king + ", " + what + ")", facts[king][what]);
            }
        }
    }

    private static void greaterCrown() {
        Run run = run("Of two kings the greater one is the one with the greater crown.");
        run.then("announce(1, 120, 0)", "announce(9, 0, 0)", "announce(2, 0, 0)", "announce(8, 120, 0)", "pass(1)");
        run.table(1, 3, 2, 0).is("wrongPairs()", 0);
        run.is("reason(2, 0)", 0).is("reason(1, 3)", 0);
    }

    private static void older() {
        Run run = run("Of like crowns the older one.");
        run.then("announce(5, 0, 0)", "announce(5, 1, 0)", "announce(5, 119, 0)", "announce(5, 120, 0)", "pass(1)");
        run.table(3, 2, 1, 0).is("wrongPairs()", 0);
        run.is("reason(1, 0)", 3).is("reason(3, 2)", 3);
    }

    private static void lowerNumber() {
        Run run = run("Of those with like ages the one with the lower number.");
        run.then("set(0, 12)");
        for (int king = 0; king < 24; king++) {
            run.then("announce(5, 50, 0)");
        }
        run.then("pass(1)").table(0, 1, 2, 3, 4, 5, 6, 7, 8, 9, 10, 11);
        run.is("waits(0)", 12).is("waits(10)", 22).is("waits(11)", 23).none("waits(12)");
        run.is("wrongPairs()", 0).is("reason(0, 1)", 4).is("reason(0, 11)", 4).notPossible("send(0)", "send(10)");
    }

    private static void whatAKingDoes() {
        Run run = run("A king is announced (0), waits in the hall (1), sits at the table (2), or has left (3).");
        run.then("set(0, 1)", "announce(5, 50, 1)", "announce(4, 50, 1)", "pass(1)");
        run.is("king(0, 3)", 0).is("king(1, 3)", 0).is("count(2)", 2).is("count(3)", 0);
        run.then("pass(1)").is("king(0, 3)", 2).is("king(1, 3)", 1).is("count(3)", 1).is("count(4)", 1);
        run.then("leave(0)").is("king(0, 3)", 3).is("king(1, 3)", 1).is("count(4)", 0).is("count(5)", 1);
        run.then("pass(1)").is("king(1, 3)", 2).is("count(3)", 0).is("count(4)", 1);
    }

    private static void firstMinute() {
        Run run = run("The minute is 0 at first.");
        run.is("count(0)", 0).badValue("announce(5, 50, -1)").is("announce(5, 50, 0)", 0).is("nextArrival()", 0);
        run.then("pass(1)").is("count(0)", 1).notPossible("announce(5, 50, 0)").is("announce(5, 50, 1)", 1);
    }

    private static void announceAtOnce(Run run, int kings) {
        for (int king = 0; king < kings; king++) {
            run.then("announce(5, 50, 0)");
        }
        run.then("pass(1)");
    }

    private static void seatsAtFirst() {
        Run run = run("The table has as many seats as the setting 0 tells (8 at first).");
        run.is("count(11)", 8);
        announceAtOnce(run, 9);
        run.table(0, 1, 2, 3, 4, 5, 6, 7).hall(8).is("count(4)", 8).is("count(3)", 1);
        run.then("set(0, 9)", "pass(1)").table(0, 1, 2, 3, 4, 5, 6, 7, 8).hall();
        run = run("The table has eight seats, all of them taken, and nobody waits.");
        announceAtOnce(run, 8);
        run.table(0, 1, 2, 3, 4, 5, 6, 7).hall();
    }

    private static void leastSeats() {
        Run run = run("The table has as many seats as the setting 0 tells (1 to 12): the least.");
        run.badValue("set(0, 0)").is("set(0, 1)", 8).badValue("set(0, 0)");
        announceAtOnce(run, 2);
        run.table(0).hall(1);
    }

    private static void mostSeats() {
        Run run = run("The table has as many seats as the setting 0 tells (1 to 12): the most.");
        run.badValue("set(0, 13)").is("set(0, 12)", 8).badValue("set(0, 13)");
        announceAtOnce(run, 13);
        run.table(0, 1, 2, 3, 4, 5, 6, 7, 8, 9, 10, 11).hall(12).unknown("seat(12)");
        run.then("leave(11)", "pass(1)").table(0, 1, 2, 3, 4, 5, 6, 7, 8, 9, 10, 12).hall();
    }

    private static void withoutAGap() {
        Run run = run("Those who sit have the seats 0, 1 and so on, without a gap.");
        announceAtOnce(run, 5);
        run.is("leave(0)", 2).table(1, 2, 3, 4);
        run.is("leave(4)", 2).table(1, 2, 3);
        run.is("leave(2)", 2).table(1, 3);
        run.is("leave(1)", 2).table(3);
        run.is("leave(3)", 2).table();
    }

    private static void behindTheLastOne() {
        Run run = run("Who sits down takes the seat behind the last one.");
        run.then("set(0, 3)", "announce(1, 0, 0)", "announce(5, 0, 1)", "announce(9, 0, 2)", "announce(9, 9, 3)");
        run.table().then("pass(1)").table(0);
        run.then("pass(1)").table(0, 1);
        run.then("pass(1)").table(0, 1, 2);
        run.then("pass(1)").table(0, 1, 2).hall(3);
        run.then("leave(0)", "pass(1)").table(1, 2, 3).hall();
    }

    private static void arrivesInHisMinute() {
        Run run = run("All kings who are announced for this minute arrive.");
        run.then("announce(5, 50, 2)", "announce(5, 50, 3)", "announce(5, 50, 4)", "pass(2)").table();
        run.then("pass(1)").table(0).is("king(1, 3)", 0);
        run.then("pass(1)").table(0, 1).is("king(2, 3)", 0);
        run.then("announce(5, 50, 4)", "pass(1)").table(0, 1, 2, 3);
        run = run("All kings who are announced for this minute arrive: all of 24.");
        run.then("set(0, 1)");
        announceAtOnce(run, 24);
        run.table(0).is("count(3)", 23).is("count(2)", 0);
    }

    /** The document's last minute for an arrival; 60 characters let 1485 minutes pass. */
    private static void arrivesInTheLastMinute() {
        Run run = run("A king is announced for a minute (0 to 9999).");
        run.text(".99;.99;.99;.99;.99;.99;.99;.99;.99;.99;.99;.99;.99;.99;.99");
        for (int time = 0; time < 6; time++) {
            run.is("perform()", 15);
        }
        run.text(".99;.99;.99;.99;.99;.99;.99;.99;.99;.99;.98").is("perform()", 11).is("count(0)", 9998);
        run.then("announce(5, 50, 9999)", "announce(5, 51, 9998)", "pass(1)").table(1).is("count(0)", 9999);
        run.is("nextArrival()", 9999).is("announce(5, 52, 9999)", 2).notPossible("announce(5, 52, 9998)");
        // A round is in the minute 9999, and its envoys let the greater 2 change with 1.
        run.is("pass(1)", 1).table(2, 1, 0).is("count(0)", 10000).none("nextArrival()");
        run.notPossible("announce(5, 52, 9999)").badValue("announce(5, 52, 10000)");
    }

    private static void greaterOnesArriveFirst() {
        Run run = run("The greater ones first, and go to the end of the row of those who wait.");
        run.then("set(0, 1)", "announce(1, 0, 0)", "announce(2, 0, 0)", "announce(8, 0, 1)", "announce(9, 0, 1)");
        run.then("announce(9, 0, 1)", "pass(1)").table(1).hall(0);
        run.then("pass(1)").table(1).hall(0, 3, 4, 2);
    }

    private static void waitersSitDown() {
        Run run = run("Then those who wait sit down, the first one first.");
        run.then("set(0, 1)", "announce(9, 0, 0)", "announce(1, 0, 0)", "announce(5, 0, 1)", "pass(2)").hall(1, 2);
        run.then("leave(0)").table().hall(1, 2);
        run.then("pass(1)").table(1).hall(2);
        run.then("set(0, 12)").hall(2);
        run.then("announce(9, 0, 3)", "pass(1)").table(1, 2, 3).hall();
    }

    private static void asLongAsThereAreSeats() {
        Run run = run("Those who wait sit down, as long as there are seats.");
        run.then("set(0, 2)");
        announceAtOnce(run, 5);
        run.table(0, 1).hall(2, 3, 4);
        run.then("pass(9)").table(0, 1).hall(2, 3, 4);
        run.then("set(0, 3)", "pass(1)").table(0, 1, 2).hall(3, 4);
        run.then("set(0, 6)", "pass(1)").table(0, 1, 2, 3, 4).hall();
        run.then("set(0, 5)", "pass(1)").table(0, 1, 2, 3, 4);
    }

    private static void firstRound() {
        Run run = run("If the minute, and 1, can be divided by the setting 1 (10 at first), there is a round.");
        run.is("count(12)", 10).is("pass(9)", 0).is("count(7)", 0).is("count(0)", 9);
        run.is("pass(1)", 1).is("count(7)", 1).is("count(0)", 10);
        run.is("pass(9)", 0).is("count(7)", 1).is("pass(1)", 1).is("count(7)", 2).is("pass(11)", 1);
    }

    private static void roundEachMinute() {
        Run run = run("The setting 1 (1 to 60): the least, a round in each minute.");
        run.badValue("set(1, 0)").is("set(1, 1)", 10);
        run.is("pass(1)", 1).is("pass(1)", 1).is("pass(99)", 99).is("count(7)", 101);
    }

    private static void roundEachHour() {
        Run run = run("The setting 1 (1 to 60): the most, a round in the minutes 59, 119 ..");
        run.badValue("set(1, 61)").is("set(1, 60)", 10);
        run.is("pass(59)", 0).is("pass(1)", 1).is("pass(59)", 0).is("pass(1)", 1).is("count(7)", 2);
        run.then("set(1, 59)").is("pass(56)", 0).is("pass(1)", 1).is("count(0)", 177);
    }

    private static void toasted() {
        Run run = run("In a round each king who sits is toasted.");
        run.then("set(0, 2)", "announce(5, 50, 8)", "announce(5, 50, 9)", "announce(5, 50, 9)", "announce(5, 50, 10)");
        run.then("pass(9)").is("king(0, 6)", 0);
        // Who comes in the minute of the round sits down before it; who waits is not toasted.
        run.is("pass(1)", 1).is("king(0, 6)", 1).is("king(1, 6)", 1).is("king(2, 6)", 0).is("king(3, 6)", 0);
        run.is("count(8)", 2).then("leave(0)").is("king(0, 6)", 1);
        run.is("pass(10)", 1).is("king(0, 6)", 1).is("king(1, 6)", 2).is("king(2, 6)", 1).is("count(8)", 4);
    }

    private static void nobodyToToast() {
        Run run = run("In a round at an empty table nobody is toasted.");
        run.then("announce(5, 50, 50)").is("pass(10)", 1).is("count(7)", 1).is("count(8)", 0).is("count(9)", 0);
        run.is("count(10)", 0).is("count(6)", 0);
    }

    private static void slightedFromAnywhere() {
        Run run = run("A king above whom, anywhere, a lesser one sits is slighted once more.");
        run.seated(3, 1, 9, 2, 3).then("set(2, 0)", "set(1, 1)").is("pass(1)", 1);
        int[] slights = {0, 0, 1, 1, 1};
        for (int king = 0; king < slights.length; king++) {
            run.is("king(" + king + ", 7)", slights[king]);
        }
        run.is("count(9)", 3);
        run = run("A king at the head, and one who sits as is due, is not slighted.");
        run.seated(9, 5, 5, 1).then("set(2, 0)", "set(1, 1)").is("pass(9)", 9).is("count(9)", 0).is("count(4)", 4);
    }

    private static void slightedOnce() {
        Run run = run("He is slighted once more in a round, however many lesser ones sit above him.");
        run.seated(1, 1, 1, 2).then("set(2, 0)", "set(1, 1)").is("pass(1)", 1).is("king(3, 7)", 1);
        run.is("pass(1)", 1).is("king(3, 7)", 2).is("count(9)", 2);
    }

    private static void threeEnvoysAtFirst() {
        Run run = run("The envoys go, as many as the setting 2 tells (3 at first).");
        run.is("count(13)", 3).seated(1, 2, 3, 4, 5).then("set(1, 6)").is("pass(1)", 1).is("count(10)", 3);
        run.table(2, 1, 0, 3, 4);
    }

    private static void noEnvoys() {
        Run run = run("The setting 2 (0 to 9): the least, no envoys.");
        run.badValue("set(2, -1)").seated(1, 2, 3).is("set(2, 0)", 3).badValue("set(2, -1)");
        run.then("set(1, 1)").is("pass(3)", 3).is("count(10)", 0).table(0, 1, 2).is("count(9)", 6);
    }

    private static void oneEnvoy() {
        Run run = run("The setting 2: one envoy.");
        run.seated(1, 2, 3).is("set(2, 1)", 3).then("set(1, 1)").is("pass(1)", 1).is("count(10)", 1).table(1, 0, 2);
    }

    private static void nineEnvoys() {
        Run run = run("The setting 2 (0 to 9): the most, nine envoys.");
        run.badValue("set(2, 10)").seated(1, 2, 3, 4, 5, 6).is("set(2, 9)", 3).badValue("set(2, 10)");
        run.then("set(1, 1)").is("pass(1)", 1).is("count(10)", 9).table(3, 4, 2, 1, 0, 5);
        run.is("pass(1)", 1).is("count(10)", 15).table(5, 4, 3, 2, 1, 0);
    }

    private static void envoysGoFromTheHead() {
        Run run = run("The first ones from the head of whom the lower one is the greater king.");
        run.seated(9, 5, 5, 6, 8, 7).then("set(2, 1)", "set(1, 1)", "set(3, 9)");
        run.then("pass(1)").table(0, 1, 3, 2, 4, 5);
        run.then("pass(1)").table(0, 3, 1, 2, 4, 5);
        run.then("pass(1)").table(0, 3, 1, 4, 2, 5);
        run.then("pass(1)").table(0, 3, 4, 1, 2, 5);
        run.then("pass(1)").table(0, 4, 3, 1, 2, 5);
        run = run("The last two neighbours are the first ones if all above sit as is due.");
        run.seated(9, 8, 7, 6, 5, 4, 3, 2, 2, 2, 1, 2).then("set(1, 1)").is("pass(1)", 1);
        run.table(0, 1, 2, 3, 4, 5, 6, 7, 8, 9, 11, 10).is("count(10)", 1);
    }

    private static void envoysRest() {
        Run run = run("If there are none, the envoys rest.");
        run.seated(2, 1, 2).then("set(1, 1)").is("pass(1)", 1).is("count(10)", 1).table(0, 2, 1);
        run.is("pass(1)", 1).is("count(10)", 1).is("count(9)", 1).table(0, 2, 1);
        run = run("With as many neighbours as envoys none rests.");
        run.seated(2, 2, 1, 2, 2, 2).then("set(1, 1)").is("pass(1)", 1).is("count(10)", 3).table(0, 1, 3, 4, 5, 2);
    }

    private static void patienceAtFirst() {
        Run run = run("Each king who was slighted as often as the setting 3 tells (4 at first) leaves.");
        run.is("count(14)", 4).seated(1, 2).then("set(2, 0)", "set(1, 1)");
        run.is("pass(3)", 3).is("king(1, 7)", 3).is("king(1, 3)", 2).is("king(1, 8)", 0).is("count(6)", 0);
        run.is("pass(1)", 1).is("king(1, 7)", 4).is("king(1, 3)", 3).is("king(1, 8)", 1).is("count(6)", 1).table(0);
    }

    private static void leastPatience() {
        Run run = run("The setting 3 (1 to 9): the least.");
        run.badValue("set(3, 0)").seated(1, 2).is("set(3, 1)", 4).badValue("set(3, 0)").then("set(2, 0)", "set(1, 1)");
        run.is("pass(1)", 1).is("king(1, 7)", 1).is("king(1, 8)", 1).is("king(0, 8)", 0).table(0);
    }

    private static void mostPatience() {
        Run run = run("The setting 3 (1 to 9): the most.");
        run.badValue("set(3, 10)").seated(1, 2).is("set(3, 9)", 4).badValue("set(3, 10)");
        run.then("set(2, 0)", "set(1, 1)").is("pass(8)", 8).is("king(1, 7)", 8).is("king(1, 8)", 0).table(0, 1);
        run.is("pass(1)", 1).is("king(1, 7)", 9).is("king(1, 8)", 1).table(0);
    }

    private static void moreOftenThanTold() {
        Run run = run("Or more often, leaves.");
        run.seated(1, 2).then("set(3, 9)", "set(2, 0)", "set(1, 1)", "pass(4)").is("king(1, 7)", 4);
        run.then("set(3, 4)").is("king(1, 3)", 2).is("pass(1)", 1).is("king(1, 7)", 5).is("king(1, 8)", 1).table(0);
    }

    private static void lesserOneAboveStill() {
        Run run = run("Leaves, if a lesser one sits above him still.");
        run.seated(1, 2).then("set(3, 1)", "set(2, 1)", "set(1, 1)").is("pass(1)", 1);
        run.is("king(1, 7)", 1).is("king(1, 8)", 0).table(1, 0).is("pass(9)", 9).table(1, 0).is("count(6)", 0);
        run = run("The one at the foot is slighted from the head still.");
        run.seated(2, 4, 3).then("set(3, 1)", "set(2, 1)", "set(1, 1)").is("pass(1)", 1);
        run.is("king(1, 7)", 1).is("king(1, 8)", 0).is("king(2, 8)", 1).table(1, 0);
    }

    private static void allAtOnce() {
        Run run = run("All of them at once; those below move up.");
        run.seated(5, 6, 1, 7, 1, 8, 9).then("set(3, 1)", "set(2, 0)", "set(1, 1)").is("pass(1)", 1);
        run.table(0, 2, 4).is("count(6)", 4).is("count(5)", 4);
        run = run("All but the one at the head leave at once.");
        run.seated(1, 2, 3, 4, 5, 6, 7, 8, 9, 9, 9, 9).then("set(3, 1)", "set(2, 0)", "set(1, 1)");
        run.is("pass(1)", 1).table(0).is("count(6)", 11);
    }

    private static void seatedInTheNextMinute() {
        Run run = run("Who waits sits down in the next minute.");
        run.then("set(0, 2)", "set(1, 1)", "set(2, 0)", "set(3, 1)", "announce(1, 0, 0)", "announce(2, 0, 1)");
        run.then("announce(1, 9, 1)", "announce(1, 8, 1)", "pass(1)").table(0);
        run.is("pass(1)", 1).table(0).hall(2, 3).is("king(1, 8)", 1);
        run.is("pass(1)", 1).table(0).hall(3).is("king(2, 8)", 1).is("king(2, 6)", 1);
    }

    private static void sixtyCharacters() {
        Run run = run("There is a text of at most 60 characters, empty at first.");
        run.is("count(16)", 0).is("perform()", -100).is("clearText()", 0);
        run.typed("k5.50@9999;k5.50@9999;k5.50@9999;k5.50@9999;k5.50@9999;.1;l").is("count(16)", 59);
        run.is("perform()", -159).typed("0").is("count(16)", 60).typedBeyond('1').is("count(16)", 60);
        run.is("perform()", 7).typedBeyond(';').is("king(0, 3)", 3).is("count(1)", 5).is("clearText()", 60);
    }

    /** The text has its fault at the index, -1 for none. */
    private static void text(Run run, String text, int fault) {
        run.text(text);
        if (fault >= 0) {
            run.is("perform()", -100 - fault);
        } else {
            run.is("perform()", 1);
        }
    }

    private static void crownsInTexts() {
        Run run = run("'k', a crown (1 to 9).");
        text(run, "k0.50@0", 1);
        text(run, "k1.50@0", -1);
        text(run, "k9.50@0", -1);
        text(run, "k10.50@0", 2);
        text(run, "k99.50@0", 2);
        text(run, "k/.50@0", 1);
        text(run, "k:.50@0", 1);
        text(run, "k.50@0", 1);
        run.is("count(1)", 2).is("king(0, 0)", 1).is("king(1, 0)", 9);
    }

    private static void agesInTexts() {
        Run run = run("'.', an age (0 to 120).");
        text(run, "k5.0@0", -1);
        text(run, "k5.9@0", -1);
        text(run, "k5.10@0", -1);
        text(run, "k5.99@0", -1);
        text(run, "k5.100@0", -1);
        text(run, "k5.120@0", -1);
        text(run, "k5.121@0", 5);
        text(run, "k5.130@0", 5);
        text(run, "k5.1200@0", 6);
        text(run, "k5.@0", 3);
        text(run, "k5:50@0", 2);
        int[] ages = {0, 9, 10, 99, 100, 120};
        for (int king = 0; king < ages.length; king++) {
            run.is("king(" + king + ", 1)", ages[king]);
        }
        run.is("count(1)", ages.length);
    }

    private static void minutesOfArrivalInTexts() {
        Run run = run("'@' and a minute (0 to 9999: a king is announced for it).");
        text(run, "k5.50@0", -1);
        text(run, "k5.50@9", -1);
        text(run, "k5.50@10", -1);
        text(run, "k5.50@999", -1);
        text(run, "k5.50@1000", -1);
        text(run, "k5.50@9999", -1);
        text(run, "k5.50@10000", 10);
        text(run, "k5.50@99999", 10);
        text(run, "k5.50@", 6);
        text(run, "k5.50A0", 5);
        int[] minutes = {0, 9, 10, 999, 1000, 9999};
        for (int king = 0; king < minutes.length; king++) {
            run.is("king(" + king + ", 2)", minutes[king]);
        }
        run.is("count(1)", minutes.length);
    }

    private static void kingsInTexts() {
        Run run = run("'l' and a king (0 to 23: he leaves).");
        for (int king = 0; king < 24; king++) {
            run.then("announce(5, 50, 0)");
        }
        text(run, "l0", -1);
        text(run, "l9", -1);
        text(run, "l10", -1);
        text(run, "l23", -1);
        text(run, "l24", 2);
        text(run, "l30", 2);
        text(run, "l230", 3);
        text(run, "l", 1);
        run.is("count(5)", 4).is("king(0, 3)", 3).is("king(9, 3)", 3).is("king(10, 3)", 3).is("king(23, 3)", 3);
    }

    private static void minutesInTexts() {
        Run run = run("'.' and minutes (1 to 99: they pass).");
        text(run, ".0", 1);
        text(run, ".1", -1);
        run.is("count(0)", 1);
        text(run, ".9", -1);
        run.is("count(0)", 10);
        text(run, ".10", -1);
        run.is("count(0)", 20);
        text(run, ".99", -1);
        run.is("count(0)", 119);
        text(run, ".100", 3);
        text(run, ".990", 3);
        text(run, ".", 1);
        run.is("count(0)", 119);
    }

    private static void zerosInFront() {
        Run run = run("Numbers have no zero in front, unless they are the single digit 0.");
        text(run, "k5.0@0", -1);
        text(run, "k5.00@0", 4);
        text(run, "k5.05@0", 4);
        text(run, "k5.5@00", 6);
        text(run, "k5.5@05", 6);
        text(run, "k05.5@0", 1);
        text(run, "l00", 2);
        text(run, "l05", 2);
        text(run, ".05", 1);
        text(run, ".00", 1);
        text(run, "l0", -1);
        run.is("count(1)", 1).is("count(0)", 0);
    }

    private static void faultAtItsPlace() {
        Run run = run("The index, from 0, of the first character that is not allowed at its place.");
        text(run, "x", 0);
        text(run, ";", 0);
        text(run, "5", 0);
        text(run, "@", 0);
        text(run, "kk", 1);
        text(run, "ll", 1);
        text(run, "..", 1);
        text(run, ".1.1", 2);
        text(run, ".1;;.1", 3);
        text(run, ".1;1", 3);
        text(run, "k5.5@5@", 6);
        text(run, "k5.5.5", 4);
        text(run, ".1;.1;.1x;.1x", 8);
        text(run, "x;x", 0);
        run.is("count(0)", 0).is("count(15)", 0).none("stopped(0)", "stopped(1)");
    }

    private static void faultAtTheEnd() {
        Run run = run("Or the length of the text if it ends too early (the empty text does).");
        String whole = "k5.5@5;l0;.1";
        // The text is whole at these lengths, and no prefix of it else.
        String ends = ",6,9,12,";
        for (int length = 0; length < whole.length(); length++) {
            if (!ends.contains("," + length + ",")) {
                run.is("perform()", -100 - length);
            }
            run.typed(whole.substring(length, length + 1));
        }
        run.is("perform()", 3).is("count(15)", 1);
    }

    private static void faultOfALongText() {
        Run run = run("The fault of a text of 60 characters.");
        run.text("l0;l0;l0;l0;l0;l0;l0;l0;l0;l0;l0;l0;l0;l0;l0;l0;l0;l0;l0;l0").is("count(16)", 59);
        run.notPossible("perform()").is("stopped(0)", 0).typed(";").is("perform()", -160).typedBeyond('l');
        run.text("l0;l0;l0;l0;l0;l0;l0;l0;l0;l0;l0;l0;l0;l0;l0;l0;l0;l0;l0;l0x").is("perform()", -159);
        run.typedBeyond('l').is("stopped(0)", 0).is("stopped(1)", KingsBanquet.UNKNOWN);
    }

    private static void fourStates() {
        Run run = run("At most 4 states is kept; when one more is recorded, the oldest one is dropped.");
        run.is("count(15)", 0).then("pass(1)").is("count(15)", 1).then("pass(2)", "pass(3)").is("count(15)", 3);
        run.then("pass(4)").is("count(15)", 4);
        run.is("undo()", 3).is("count(0)", 6).is("undo()", 2).is("count(0)", 3).is("undo()", 1).is("count(0)", 1);
        run.is("undo()", 0).is("count(0)", 0).none("undo()").is("count(0)", 0);
        run.then("pass(1)", "pass(2)", "pass(3)", "pass(4)", "pass(5)").is("count(15)", 4);
        run.is("undo()", 3).is("count(0)", 10).is("undo()", 2).is("count(0)", 6).is("undo()", 1).is("count(0)", 3);
        run.is("undo()", 0).is("count(0)", 1).none("undo()").is("count(0)", 1);
    }

    private static void statesWrittenOver() {
        for (int acts = 4; acts <= 13; acts++) {
            Run run = run("undo() removes and restores the latest one, behind " + acts + " acts.");
            for (int act = 0; act < acts; act++) {
                run.then("pass(1)");
            }
            for (int left = 3; left >= 0; left--) {
                run.is("undo()", left).is("count(0)", acts - 4 + left);
            }
            run.none("undo()").then("pass(9)").is("undo()", 0).is("count(0)", acts - 4).none("undo()");
        }
    }

    private static void noSnapshotAtFirst() {
        Run run = run("There is one snapshot, empty at first.");
        run.none("restore()").then("announce(5, 50, 0)").none("restore()").is("count(1)", 1);
        run.is("keep()", 0).is("restore()", 0).is("count(1)", 1);
        run.then("pass(1)").is("keep()", 1).is("restore()", 1).is("count(0)", 1);
        run.is("undo()", 3).is("undo()", 2).is("restore()", 1).is("count(0)", 1);
    }

    private static void whatIsNoState() {
        Run run = run("A state is everything but the text, the history, the snapshot and the latest stop.");
        run.then("keep()", "pass(1)").text("l5").notPossible("perform()").typed(";l6");
        run.is("undo()", 0).is("count(16)", 5).is("stopped(0)", 0).is("stopped(1)", KingsBanquet.UNKNOWN);
        run.is("keep()", 0).then("pass(1)", "pass(1)").text(".1;.1;l7").notPossible("perform()").is("stopped(0)", 2);
        run.is("restore()", 0).is("count(0)", 0).is("count(15)", 3).is("count(16)", 8).is("stopped(0)", 2);
        run.is("undo()", 2).is("count(0)", 2).is("stopped(0)", 2).is("restore()", 0).is("count(0)", 0);
    }

    private static void orderOfChecks() {
        Run run = run("Where several errors can apply, the order of the @return line is the order of the checks.");
        run.then("set(1, 60)", "announce(1, 50, 0)", "announce(2, 50, 1)", "pass(2)");
        run.badValue("announce(0, 50, 1)", "announce(5, 121, 1)").notPossible("announce(5, 50, 1)");
        run.unknown("set(4, 0)", "set(-1, 99)").badValue("set(0, 0)").notPossible("set(0, 1)").is("set(0, 2)", 8);
        run.unknown("king(2, 9)", "king(-1, -1)").badValue("king(1, 9)");
        run.unknown("reason(2, 2)", "reason(-1, -1)").badValue("reason(1, 1)");
        run.text("l9;x").is("perform()", -103).none("stopped(0)").badValue("stopped(2)", "stopped(-1)");
        for (int king = 2; king < 24; king++) {
            run.then("announce(5, 50, 9)");
        }
        run.badValue("announce(0, 50, 1)", "announce(5, 50, 10000)").notPossible("announce(5, 50, 1)");
        run.full("announce(5, 50, 2)").then("set(2, 0)").notPossible("dueIn(5)").none("dueIn(1)");
    }

    private static void noneOnlyIfNoError() {
        Run run = run("NONE is returned only if no error applies.");
        run.badValue("waits(-1)", "stopped(2)", "stopped(-1)");
        run.none("waits(0)", "stopped(0)", "stopped(1)", "seat(0)", "seat(11)").unknown("seat(12)", "seat(-1)");
        run.unknown("set(4, 8)").none("set(0, 8)", "set(1, 10)", "set(2, 3)", "set(3, 4)");
        run.none("undo()", "restore()", "mostSlighted()", "nextArrival()").unknown("dueIn(0)");
    }

    private static void refusedPerform() {
        Run run = run("A call that returns an error changes nothing (but for the latest stop of perform()).");
        run.then("announce(5, 50, 0)", "pass(1)").text("l3").notPossible("perform()").is("stopped(0)", 0);
        run.text("k5.5@9;.9;l0;l0").notPossible("perform()").is("stopped(0)", 3);
        run.is("stopped(1)", KingsBanquet.NOT_POSSIBLE).is("count(0)", 1).is("count(1)", 1).table(0);
        run.text("x").is("perform()", -100).is("stopped(0)", 3).none("set(0, 8)").unknown("leave(7)");
        run.is("stopped(0)", 3).is("stopped(1)", KingsBanquet.NOT_POSSIBLE);
    }
}
