/** The sentences of the promises 14 to 25 that name a boundary case. */
public final class ToldEdgesTest {
    private static final Due DUE = new Due("ToldEdgesTest");
    private static final String MOST = String.valueOf(Integer.MAX_VALUE);
    private static final String LEAST = String.valueOf(Integer.MIN_VALUE);

    public static void main(String[] args) {
        promise14Unknown();
        promise14BadValue();
        promise14FirstAndLastSeat();
        promise14FirstAndLastPlace();
        promise14LeftInAnger();
        promise15Unknown();
        promise15Nobody();
        promise16Rank();
        promise16NotSoMany();
        promise17NotAbove();
        promise17LesserKing();
        promise17Greater();
        promise17Errors();
        promise18NoneDoesNow();
        promise18MostRounds();
        promise18NobodyComesOrLeaves();
        promise18Never();
        promise18Errors();
        promise19Arguments();
        promise19FirstAndLastSeat();
        promise19GreatestNumber();
        promise20And21NoPairs();
        promise20And21OnePair();
        promise20And21AllPairs();
        promise22NobodySlighted();
        promise22NearestToTheHead();
        promise22OfThoseWhoSit();
        promise23Arguments();
        promise23FirstRound();
        promise23NinthRound();
        promise23NobodyComes();
        promise23NobodySitsDown();
        promise24None();
        promise24ThisOneOrLater();
        promise24Passed();
        promise25Arguments();
        promise25Kings();
        promise25Anger();
        promise25RoundsAndToasts();
        promise25Changes();
        promise25SettingsStatesAndText();
        promise25TheLastMinute();
        DUE.end();
    }

    private static Run run(String sentence) {
        return new Run(DUE, sentence);
    }

    /** A run in which all 24 kings are announced for the minute 0; those of a low number are the greater ones. */
    private static Run crowd(String sentence) {
        Run run = run(sentence);
        for (int king = 0; king < 24; king++) {
            run.then("announce(5, 50, 0)");
        }
        return run;
    }

    private static void promise14Unknown() {
        Run run = run("king: UNKNOWN.");
        run.unknown("king(0, 0)", "king(-1, 0)").then("announce(5, 50, 0)").is("king(0, 0)", 5);
        run.unknown("king(1, 0)", "king(-1, 0)", "king(" + MOST + ", 0)", "king(" + LEAST + ", 0)");
        run.unknown("king(1, 9)", "king(-1, -1)").is("undo()", 0).unknown("king(0, 0)");
        run = crowd("king: UNKNOWN behind the last one.");
        run.is("king(23, 0)", 5).unknown("king(24, 0)").is("leave(23)", 0).is("king(23, 0)", 5).is("king(23, 3)", 3);
    }

    private static void promise14BadValue() {
        Run run = run("king: what: 0 to 8; BAD_VALUE.");
        run.then("announce(7, 77, 6)", "pass(1)");
        run.badValue("king(0, -1)", "king(0, 9)", "king(0, " + MOST + ")", "king(0, " + LEAST + ")");
        run.is("king(0, 0)", 7).is("king(0, 1)", 77).is("king(0, 2)", 6).is("king(0, 3)", 0);
        run.none("king(0, 4)", "king(0, 5)").is("king(0, 6)", 0).is("king(0, 7)", 0).is("king(0, 8)", 0);
    }

    private static void promise14FirstAndLastSeat() {
        Run run = crowd("king: 4 for his seat, NONE if he has none.");
        run.none("king(0, 4)").then("set(0, 12)", "pass(1)").is("king(0, 4)", 0).is("king(11, 4)", 11);
        run.none("king(12, 4)", "king(23, 4)").is("leave(0)", 2).none("king(0, 4)");
        run.is("king(1, 4)", 0).is("king(11, 4)", 10).none("king(12, 4)").then("pass(1)").is("king(12, 4)", 11);
    }

    private static void promise14FirstAndLastPlace() {
        Run run = crowd("king: 5 for his place in the row of those who wait, from 0, NONE if he has none.");
        run.none("king(0, 5)", "king(23, 5)").then("set(0, 1)", "pass(1)").none("king(0, 5)");
        run.is("king(1, 5)", 0).is("king(2, 5)", 1).is("king(23, 5)", 22).is("leave(1)", 1).none("king(1, 5)");
        run.is("king(2, 5)", 0).is("king(23, 5)", 21).then("leave(0)", "pass(1)").none("king(2, 5)");
        run.is("king(3, 5)", 0).is("king(23, 5)", 20);
    }

    private static void promise14LeftInAnger() {
        Run run = run("king: 6 toasted, 7 slighted, 8 for whether he left in anger, in a round (1, otherwise 0).");
        run.seated(1, 2, 3).then("set(2, 0)", "set(1, 1)", "set(3, 2)").then("pass(1)");
        run.is("king(1, 6)", 1).is("king(1, 7)", 1).is("king(1, 8)", 0);
        // King 2 leaves on his own, king 1 in anger.
        run.is("leave(2)", 2).then("pass(1)").is("king(1, 6)", 2).is("king(1, 7)", 2).is("king(1, 8)", 1);
        run.is("king(2, 8)", 0).is("king(2, 6)", 1).is("king(2, 7)", 1).is("king(0, 8)", 0).is("king(0, 7)", 0);
        run.then("pass(99)").is("king(0, 6)", 101).is("king(1, 6)", 2).is("king(1, 8)", 1);
    }

    private static void promise15Unknown() {
        Run run = run("seat: 0 to 11; UNKNOWN.");
        run.unknown("seat(-1)", "seat(12)", "seat(" + MOST + ")", "seat(" + LEAST + ")").none("seat(0)", "seat(11)");
        run.then("set(0, 1)").none("seat(1)", "seat(11)").unknown("seat(12)");
    }

    private static void promise15Nobody() {
        Run run = run("seat: NONE if nobody does.");
        run.seated(9, 9, 9, 9, 9, 9, 9, 9, 9, 9, 9).is("seat(10)", 10).none("seat(11)");
        run.then("announce(9, 50, 11)", "pass(1)").is("seat(11)", 11).is("leave(0)", 2).is("seat(10)", 11);
        run.none("seat(11)").is("seat(0)", 1);
    }

    private static void promise16Rank() {
        Run run = run("waits: rank: from 0; BAD_VALUE if rank is negative.");
        run.badValue("waits(-1)", "waits(" + LEAST + ")").none("waits(0)", "waits(" + MOST + ")");
        run.then("set(0, 1)", "announce(5, 50, 0)", "announce(5, 50, 0)", "pass(1)");
        run.badValue("waits(-1)", "waits(" + LEAST + ")").is("waits(0)", 1).none("waits(1)", "waits(" + MOST + ")");
    }

    private static void promise16NotSoMany() {
        Run run = crowd("waits: NONE if there are not so many.");
        run.none("waits(0)").then("set(0, 1)", "pass(1)").is("waits(0)", 1).is("waits(22)", 23);
        run.none("waits(23)", "waits(24)").then("leave(0)").is("waits(22)", 23).then("pass(1)");
        run.is("waits(0)", 2).is("waits(21)", 23).none("waits(22)");
    }

    private static void promise17NotAbove() {
        Run run = run("reason: 1 he is not above, or one of both does not sit.");
        run.then("set(0, 2)", "announce(9, 0, 0)", "announce(8, 0, 0)", "announce(7, 0, 0)", "announce(6, 0, 9)");
        run.then("announce(5, 0, 9)", "pass(1)").is("reason(0, 1)", 0).is("reason(1, 0)", 1);
        run.is("reason(0, 2)", 1).is("reason(2, 0)", 1).is("reason(0, 3)", 1).is("reason(3, 0)", 1);
        run.is("reason(3, 4)", 1).is("reason(2, 3)", 1).then("leave(1)").is("reason(0, 1)", 1).is("reason(1, 0)", 1);
        run.is("leave(0)", 2).is("reason(0, 1)", 1).is("reason(1, 0)", 1).then("pass(1)").is("reason(2, 0)", 1);
    }

    private static void promise17LesserKing() {
        Run run = run("reason: 2 he is the lesser king.");
        run.then("announce(5, 50, 1)", "announce(5, 50, 0)", "announce(5, 51, 2)", "announce(6, 0, 3)", "pass(4)");
        run.table(1, 0, 2, 3).is("reason(1, 0)", 2).is("reason(0, 2)", 2).is("reason(2, 3)", 2).is("reason(1, 3)", 2);
        run.is("reason(0, 1)", 1).is("reason(3, 1)", 1);
    }

    private static void promise17Greater() {
        Run run = run("reason: 0 he has the greater crown, 3 he is older, 4 his number is lower.");
        run.then("announce(6, 0, 0)", "announce(5, 120, 0)", "announce(5, 119, 0)", "announce(5, 119, 0)", "pass(1)");
        run.is("reason(0, 1)", 0).is("reason(1, 2)", 3).is("reason(2, 3)", 4).is("reason(0, 3)", 0);
        run.is("reason(1, 3)", 3);
        run = run("reason: of an older one of a greater crown, or of a higher number.");
        run.then("announce(5, 0, 0)", "announce(5, 1, 0)", "announce(6, 1, 0)", "pass(1)").is("reason(2, 0)", 0);
        run.is("reason(2, 1)", 0).is("reason(1, 0)", 3);
    }

    private static void promise17Errors() {
        Run run = run("reason: UNKNOWN (king or other); BAD_VALUE if both are the same.");
        run.unknown("reason(0, 0)", "reason(0, 1)").then("announce(5, 50, 0)").badValue("reason(0, 0)");
        run.unknown("reason(0, 1)", "reason(1, 0)", "reason(1, 1)", "reason(-1, 0)", "reason(0, -1)", "reason(-1, -1)");
        run.unknown("reason(" + MOST + ", 0)", "reason(0, " + LEAST + ")").then("announce(5, 50, 0)");
        run.is("reason(0, 1)", 1).badValue("reason(1, 1)").unknown("reason(2, 0)", "reason(0, 2)", "reason(2, 2)");
        run = crowd("reason: UNKNOWN behind the last one.");
        run.is("reason(22, 23)", 1).badValue("reason(23, 23)").unknown("reason(23, 24)", "reason(24, 23)");
    }

    private static void promise18NoneDoesNow() {
        Run run = run("dueIn: 0 if none does now.");
        run.seated(5, 5, 4, 5).is("dueIn(0)", 0).is("dueIn(1)", 0).is("dueIn(2)", 0).is("dueIn(3)", 1);
        run.then("send(2)").is("dueIn(3)", 0).is("dueIn(2)", 0);
    }

    private static void promise18MostRounds() {
        Run run = run("dueIn: Returns how many.");
        run.then("set(0, 12)", "set(1, 60)");
        for (int king = 0; king < 12; king++) {
            run.then("announce(5, " + king + ", " + king + ")");
        }
        run.then("pass(12)", "set(2, 1)");
        for (int king = 0; king < 12; king++) {
            run.is("dueIn(" + king + ")", king * (king + 1) / 2);
        }
        run.then("set(2, 2)").is("dueIn(1)", 1).is("dueIn(2)", 2).is("dueIn(10)", 28).is("dueIn(11)", 33);
        run.then("set(2, 9)").is("dueIn(1)", 1).is("dueIn(3)", 1).is("dueIn(4)", 2).is("dueIn(8)", 4);
        run.is("dueIn(11)", 8);
    }

    private static void promise18NobodyComesOrLeaves() {
        Run run = run("dueIn: if nobody comes or leaves, and nobody is angry.");
        run.then("set(0, 3)", "set(2, 1)", "set(3, 1)", "announce(1, 0, 0)", "announce(2, 0, 1)", "announce(3, 0, 2)");
        run.then("announce(1, 0, 2)", "announce(9, 0, 3)", "pass(3)").hall(3).is("dueIn(2)", 3).is("dueIn(1)", 1);
        run.then("set(0, 12)").is("dueIn(2)", 3).is("dueIn(0)", 0).is("count(7)", 0).is("count(10)", 0);
    }

    private static void promise18Never() {
        Run run = run("dueIn: NONE if that is not within 100 rounds.");
        run.seated(1, 2, 1).is("set(2, 0)", 3).none("dueIn(1)").is("dueIn(0)", 0).none("dueIn(1)").is("dueIn(2)", 0);
        run.then("set(2, 1)").is("dueIn(1)", 1);
    }

    private static void promise18Errors() {
        Run run = run("dueIn: UNKNOWN; NOT_POSSIBLE if he does not sit.");
        run.unknown("dueIn(0)", "dueIn(-1)").then("set(0, 1)", "announce(5, 50, 0)", "announce(4, 50, 0)");
        run.notPossible("dueIn(0)", "dueIn(1)").unknown("dueIn(2)", "dueIn(" + MOST + ")", "dueIn(" + LEAST + ")");
        run.then("pass(1)").is("dueIn(0)", 0).notPossible("dueIn(1)").then("leave(0)").notPossible("dueIn(0)");
        run.then("pass(1)").is("dueIn(1)", 0).unknown("dueIn(2)", "dueIn(-1)");
        run = crowd("dueIn: UNKNOWN behind the last one.");
        run.notPossible("dueIn(23)").unknown("dueIn(24)");
    }

    private static void promise19Arguments() {
        Run run = run("dueSeat: crown: 1 to 9; age: 0 to 120; BAD_VALUE.");
        run.badValue("dueSeat(0, 50)", "dueSeat(10, 50)", "dueSeat(5, -1)", "dueSeat(5, 121)", "dueSeat(0, 121)");
        run.badValue("dueSeat(" + MOST + ", 0)", "dueSeat(" + LEAST + ", 0)", "dueSeat(1, " + MOST + ")");
        run.badValue("dueSeat(1, " + LEAST + ")").is("dueSeat(1, 0)", 0).is("dueSeat(9, 120)", 0);
        run.is("dueSeat(1, 120)", 0).is("dueSeat(9, 0)", 0);
    }

    private static void promise19FirstAndLastSeat() {
        Run run = run("dueSeat: if all who sit, and he, sat in the order that is due.");
        run.then("announce(5, 60, 2)", "announce(5, 40, 0)", "announce(7, 0, 1)", "announce(9, 120, 9)", "pass(3)");
        run.table(1, 2, 0).is("dueSeat(7, 1)", 0).is("dueSeat(8, 0)", 0).is("dueSeat(6, 120)", 1);
        run.is("dueSeat(5, 61)", 1).is("dueSeat(5, 59)", 2).is("dueSeat(5, 41)", 2).is("dueSeat(5, 39)", 3);
        run.is("dueSeat(4, 120)", 3).then("leave(2)").is("dueSeat(5, 39)", 2).is("dueSeat(6, 0)", 0);
        run = crowd("dueSeat: at a table whose seats are all taken.");
        run.then("set(0, 12)", "pass(1)").is("dueSeat(5, 51)", 0).is("dueSeat(5, 49)", 12).is("dueSeat(1, 0)", 12);
    }

    private static void promise19GreatestNumber() {
        Run run = run("dueSeat: his number is the greatest of all.");
        run.seated(5, 4, 4).is("dueSeat(5, 50)", 1).is("dueSeat(5, 51)", 0).is("dueSeat(4, 50)", 3);
        run.is("dueSeat(4, 51)", 1);
        run = crowd("dueSeat: his number is the greatest of all, behind that of the 24th king.");
        run.then("set(0, 12)");
        run.text("l0;l1;l2;l3;l4;l5;l6;l7;l8;l9;l10;l11;.1").is("perform()", 13);
        run.table(12, 13, 14, 15, 16, 17, 18, 19, 20, 21, 22, 23).is("dueSeat(5, 50)", 12).is("dueSeat(5, 51)", 0);
    }

    private static void pairs(Run run, int pairs) {
        run.is("wrongPairs()", pairs).is("changesNeeded()", pairs);
    }

    private static void promise20And21NoPairs() {
        Run run = run("wrongPairs, changesNeeded: none.");
        pairs(run, 0);
        run.then("announce(5, 50, 0)", "announce(5, 50, 1)", "announce(1, 50, 2)", "pass(1)");
        pairs(run, 0);
        run.then("pass(2)");
        pairs(run, 0);
        run = crowd("wrongPairs, changesNeeded: none at a table of twelve, though others wait.");
        run.then("set(0, 12)", "pass(1)");
        pairs(run, 0);
    }

    private static void promise20And21OnePair() {
        Run run = run("wrongPairs, changesNeeded: one.");
        run.seated(1, 2);
        pairs(run, 1);
        run.then("send(0)");
        pairs(run, 0);
        run = run("wrongPairs, changesNeeded: of kings who are not neighbours.");
        run.seated(5, 3, 4, 9);
        pairs(run, 4);
        run.then("send(2)", "send(1)");
        pairs(run, 2);
        run = run("wrongPairs, changesNeeded: of the last two of twelve.");
        run.seated(9, 8, 8, 8, 7, 7, 6, 5, 4, 3, 1, 2);
        pairs(run, 1);
    }

    private static void promise20And21AllPairs() {
        Run run = run("wrongPairs, changesNeeded: all of 66.");
        run.then("set(0, 12)", "set(1, 60)", "set(2, 0)");
        for (int king = 0; king < 12; king++) {
            run.then("announce(5, " + king + ", " + king + ")");
        }
        for (int sitting = 1; sitting <= 12; sitting++) {
            run.then("pass(1)");
            pairs(run, sitting * (sitting - 1) / 2);
        }
        run.then("send(10)");
        pairs(run, 65);
        run.is("count(10)", 1).then("leave(0)");
        pairs(run, 54);
    }

    private static void promise22NobodySlighted() {
        Run run = run("mostSlighted: NONE if nobody who sits was slighted.");
        run.none("mostSlighted()").seated(1, 2).none("mostSlighted()").then("set(1, 3)", "set(2, 0)");
        run.is("pass(1)", 1).is("mostSlighted()", 1).is("undo()", 3).none("mostSlighted()");
    }

    private static void promise22NearestToTheHead() {
        Run run = run("mostSlighted: of several the one nearest to the head.");
        run.seated(1, 2, 3, 4).then("set(1, 1)", "set(2, 0)", "pass(1)").is("mostSlighted()", 1).then("send(1)");
        run.is("mostSlighted()", 2).then("send(2)").is("mostSlighted()", 2).then("send(1)").is("mostSlighted()", 3);
        run = run("mostSlighted: one who is slighted more often, at the foot.");
        run.seated(1, 5, 4).then("set(1, 1)", "set(2, 0)", "pass(1)").is("mostSlighted()", 1).then("send(0)");
        run.then("pass(1)").table(1, 0, 2).is("king(1, 7)", 1).is("king(2, 7)", 2).is("mostSlighted()", 2);
    }

    private static void promise22OfThoseWhoSit() {
        Run run = run("mostSlighted: of those who sit.");
        run.seated(1, 2, 3).then("set(1, 1)", "set(2, 0)", "pass(1)", "leave(0)", "pass(1)").table(1, 2);
        run.is("king(1, 7)", 1).is("king(2, 7)", 2).is("mostSlighted()", 2).then("leave(2)").is("mostSlighted()", 1);
        run.then("leave(1)").none("mostSlighted()");
    }

    private static void promise23Arguments() {
        Run run = run("ifRounds: rounds: 1 to 30; BAD_VALUE.");
        run.badValue("ifRounds(0)", "ifRounds(-1)", "ifRounds(31)");
        run.badValue("ifRounds(" + MOST + ")", "ifRounds(" + LEAST + ")");
        run.is("ifRounds(1)", 0).is("ifRounds(30)", 0).seated(1, 2, 3).then("set(2, 0)").badValue("ifRounds(0)");
        run.badValue("ifRounds(31)").is("ifRounds(30)", 2).is("count(6)", 0).table(0, 1, 2);
    }

    private static void promise23FirstRound() {
        Run run = run("ifRounds: one round.");
        run.seated(1, 2, 3, 4).then("set(2, 0)", "set(3, 1)").is("ifRounds(1)", 3).is("ifRounds(30)", 3);
        run.then("set(2, 3)").is("ifRounds(1)", 1).then("set(2, 6)").is("ifRounds(1)", 0).is("ifRounds(30)", 0);
        run.then("set(2, 5)", "set(1, 1)").is("ifRounds(1)", 1).is("pass(1)", 1).is("count(6)", 1);
    }

    private static void promise23NinthRound() {
        Run run = run("ifRounds: one behind the other.");
        run.seated(1, 2, 3).then("set(2, 0)").is("ifRounds(3)", 0).is("ifRounds(4)", 2).then("set(3, 9)");
        run.is("ifRounds(8)", 0).is("ifRounds(9)", 2).then("set(1, 1)", "pass(8)").is("ifRounds(1)", 2);
        run.then("pass(1)").is("count(6)", 2).is("ifRounds(1)", 0).is("ifRounds(30)", 0);
    }

    private static void promise23NobodyComes() {
        Run run = run("ifRounds: if nobody comes.");
        run.then("set(1, 1)", "set(2, 0)", "set(3, 1)", "announce(1, 0, 0)", "announce(2, 0, 1)", "pass(1)");
        run.is("ifRounds(1)", 0).is("ifRounds(30)", 0).is("count(0)", 1).is("pass(1)", 1).is("count(6)", 1);
    }

    private static void promise23NobodySitsDown() {
        Run run = run("ifRounds: nobody who waits sits down.");
        run.then("set(0, 2)", "set(2, 0)", "set(3, 1)", "announce(1, 0, 0)", "announce(2, 0, 1)", "announce(3, 0, 1)");
        run.then("announce(4, 0, 1)", "pass(2)").table(0, 3).hall(2, 1).is("ifRounds(1)", 1).is("ifRounds(2)", 1);
        run.is("ifRounds(30)", 1).hall(2, 1).then("set(0, 12)").is("ifRounds(30)", 1);
        run.then("set(1, 1)", "pass(2)").is("count(6)", 3).hall();
    }

    private static void promise24None() {
        Run run = run("nextArrival: NONE if there is none.");
        run.none("nextArrival()").then("announce(5, 50, 0)").is("nextArrival()", 0);
        run.then("pass(1)").none("nextArrival()");
        run.then("announce(5, 50, 9999)").is("nextArrival()", 9999).then("leave(1)").none("nextArrival()");
        run.is("undo()", 3).is("nextArrival()", 9999);
    }

    private static void promise24ThisOneOrLater() {
        Run run = run("nextArrival: the next minute, this one or later.");
        run.then("announce(5, 50, 9)", "announce(5, 50, 3)", "announce(5, 50, 4)", "announce(5, 50, 3)");
        run.is("nextArrival()", 3).then("pass(2)").is("nextArrival()", 3).then("pass(1)").is("nextArrival()", 3);
        run.then("leave(1)").is("nextArrival()", 3).then("leave(3)").is("nextArrival()", 4).then("announce(5, 50, 3)");
        run.is("nextArrival()", 3).then("pass(1)").is("nextArrival()", 4).then("pass(1)").is("nextArrival()", 9);
    }

    private static void promise24Passed() {
        Run run = run("nextArrival: those who wait or sit have come.");
        run.then("set(0, 1)", "announce(5, 50, 0)", "announce(5, 50, 0)", "pass(1)").hall(1).none("nextArrival()");
        run.then("announce(5, 50, 1)").is("nextArrival()", 1);
    }

    private static void promise25Arguments() {
        Run run = run("count: what: 0 to 16; BAD_VALUE.");
        run.badValue("count(-1)", "count(17)", "count(" + MOST + ")", "count(" + LEAST + ")");
        run.is("count(0)", 0).is("count(16)", 0);
    }

    private static void counts(Run run, int first, int... wanted) {
        for (int at = 0; at < wanted.length; at++) {
            run.is("count(" + (first + at) + ")", wanted[at]);
        }
    }

    private static void promise25Kings() {
        Run run = crowd("count: 1 for kings so far, 2 to 5 for those who are announced, wait, sit and have left.");
        counts(run, 1, 24, 24, 0, 0, 0);
        run.then("set(0, 1)", "pass(1)");
        counts(run, 1, 24, 0, 23, 1, 0);
        run.then("set(0, 12)", "pass(1)");
        counts(run, 1, 24, 0, 12, 12, 0);
        run.text("l0;l1;l2;l3;l4;l5;l6;l7;l8;l9;l10;l11;.1").is("perform()", 13);
        counts(run, 1, 24, 0, 0, 12, 12);
        run.text("l12;l13;l14;l15;l16;l17;l18;l19;l20;l21;l22;l23").is("perform()", 12);
        counts(run, 1, 24, 0, 0, 0, 24);
        run.is("count(6)", 0).full("announce(5, 50, 99)");
    }

    private static void promise25Anger() {
        Run run = run("count: 6 for those who left in anger.");
        run.seated(1, 2, 3, 4, 5, 6, 7, 8, 9, 9, 9, 9).then("set(1, 1)", "set(2, 0)", "set(3, 2)", "pass(1)");
        counts(run, 4, 12, 0, 0);
        run.then("leave(11)", "pass(1)");
        counts(run, 4, 1, 11, 10);
        run.then("leave(0)");
        counts(run, 4, 0, 12, 10);
    }

    private static void promise25RoundsAndToasts() {
        Run run = run("count: 7 for rounds so far, 8 for toasts so far, 9 for slights so far.");
        run.then("set(1, 1)", "pass(3)");
        counts(run, 7, 3, 0, 0);
        run.then("announce(1, 50, 3)", "announce(2, 50, 4)", "set(2, 0)", "pass(1)");
        counts(run, 7, 4, 1, 0);
        run.then("pass(1)");
        counts(run, 7, 5, 3, 1);
        run.then("leave(0)", "pass(1)").then("leave(1)", "pass(1)");
        counts(run, 7, 7, 4, 1);
        run.then("ifRounds(30)").is("undo()", 3);
        counts(run, 7, 6, 4, 1);
    }

    private static void promise25Changes() {
        Run run = run("count: 10 for changes by envoys so far, those of send() among them.");
        run.seated(1, 2, 3, 4).is("count(10)", 0).then("send(0)").is("count(10)", 1).notPossible("send(0)");
        run.is("count(10)", 1).then("set(1, 1)", "pass(1)").is("count(10)", 4).then("pass(5)").is("count(10)", 6);
        run.is("undo()", 3).is("count(10)", 4).is("undo()", 2).is("count(10)", 1);
    }

    private static void promise25SettingsStatesAndText() {
        Run run = run("count: 11 to 14 for the settings, 15 for the states, 16 for the length of the text.");
        run.is("count(15)", 0).then("set(0, 12)").is("count(15)", 1).then("set(1, 60)").is("count(15)", 2);
        run.then("set(2, 9)").is("count(15)", 3).then("set(3, 9)").is("count(15)", 4);
        counts(run, 11, 12, 60, 9, 9, 4, 0);
        run.then("set(0, 1)", "set(1, 1)", "set(2, 0)", "set(3, 1)");
        counts(run, 11, 1, 1, 0, 1, 4, 0);
        run.text(".1;.1;.1;.1;.1;.1;.1;.1;.1;.1;.1;.1;.1;.1;.1;.1;.1;.1;.1;.11").is("count(16)", 60);
        run.typedBeyond('1').is("count(16)", 60).is("perform()", 20).is("count(16)", 60).is("count(15)", 4);
    }

    private static void promise25TheLastMinute() {
        Run run = run("count: 0 for the minute, 7 for rounds so far: the most of them.");
        run.then("set(1, 1)", "set(3, 9)", "announce(5, 50, 0)");
        run.text(".99;.99;.99;.99;.99;.99;.99;.99;.99;.99;.99;.99;.99;.99;.99");
        for (int time = 0; time < 67; time++) {
            run.is("perform()", 15);
        }
        run.text(".99;.99;.99;.99;.99;.9").is("perform()", 6).full("pass(1)");
        counts(run, 0, 99999, 1, 0, 0, 1, 0, 0, 99999, 99999, 0, 0);
        run.is("king(0, 6)", 99999);
    }
}
