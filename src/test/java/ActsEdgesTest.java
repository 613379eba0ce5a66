/** The sentences of the promises 1 to 13 that name a boundary case. */
public final class ActsEdgesTest {
    private static final Due DUE = new Due("ActsEdgesTest");
    private static final String FULL_OF_MINUTES = ".99;.99;.99;.99;.99;.99;.99;.99;.99;.99;.99;.99;.99;.99;.99";

    public static void main(String[] args) {
        promise1EmptyTable();
        promise2Arguments();
        promise2ThatMinuteHasPassed();
        promise2Full();
        promise2OrderOfErrors();
        promise3WhatHeDidBefore();
        promise3Unknown();
        promise3HasLeft();
        promise3MoveUp();
        promise4NobodySitsThere();
        promise4AtAFullTable();
        promise4NotTheGreaterKing();
        promise5Unknown();
        promise5Ranges();
        promise5MoreKingsSit();
        promise5SoAlready();
        promise6Arguments();
        promise6HowManyRounds();
        promise6BeyondTheLastMinute();
        promise7Full();
        promise7AnyCharacter();
        promise8LengthThatItHad();
        promise9HowManyThings();
        promise9Fault();
        promise9AllOrNothing();
        promise9OneByOne();
        promise9OneAct();
        promise9StoppedByAnnounce();
        promise9StoppedByLeave();
        promise9StoppedByPass();
        promise10Arguments();
        promise10LatestStop();
        promise11StatesLeft();
        promise11EveryAct();
        promise12HowManySit();
        promise12InPlace();
        promise13NoSnapshot();
        promise13Stays();
        promise13IsAnAct();
        DUE.end();
    }

    private static Run run(String sentence) {
        return new Run(DUE, sentence);
    }

    private static void promise1EmptyTable() {
        Run run = run("Creates an empty table, at the minute 0.");
        int[] accounts = {0, 0, 0, 0, 0, 0, 0, 0, 0, 0, 0, 8, 10, 3, 4, 0, 0};
        for (int what = 0; what < accounts.length; what++) {
            run.is("count(" + what + ")", accounts[what]);
        }
        run.table().hall().unknown("king(0, 0)", "leave(0)", "send(0)", "dueIn(0)", "reason(0, 1)");
        run.none("undo()", "restore()", "stopped(0)", "stopped(1)", "mostSlighted()", "nextArrival()");
        run.is("wrongPairs()", 0).is("changesNeeded()", 0).is("ifRounds(1)", 0).is("dueSeat(1, 0)", 0);
        run.is("perform()", -100).is("clearText()", 0).is("keep()", 0);
    }

    private static void promise2Arguments() {
        Run run = run("announce: crown: 1 to 9; age: 0 to 120; minute: 0 to 9999.");
        int[] far = {Integer.MIN_VALUE, -1, Integer.MAX_VALUE};
        for (int number : far) {
            run.badValue("announce(" + number + ", 0, 0)", "announce(1, " + number + ", 0)");
            run.badValue("announce(1, 0, " + number + ")");
        }
        run.badValue("announce(0, 0, 0)", "announce(10, 0, 0)", "announce(1, 121, 0)", "announce(1, 0, 10000)");
        run.is("announce(1, 0, 0)", 0).is("announce(9, 120, 9999)", 1);
        run.is("king(0, 0)", 1).is("king(0, 1)", 0).is("king(0, 2)", 0);
        run.is("king(1, 0)", 9).is("king(1, 1)", 120).is("king(1, 2)", 9999).is("count(1)", 2);
    }

    private static void promise2ThatMinuteHasPassed() {
        Run run = run("announce: NOT_POSSIBLE if that minute has passed.");
        run.then("pass(1)").notPossible("announce(5, 50, 0)").is("announce(5, 50, 1)", 0);
        run.then("pass(98)").notPossible("announce(5, 50, 98)", "announce(5, 50, 0)").is("announce(5, 50, 99)", 1);
        run.is("announce(5, 50, 100)", 2).then("pass(1)").notPossible("announce(5, 50, 99)").table(0, 1);
        run.then("undo()").is("announce(5, 50, 99)", 3).then("pass(1)").table(0, 1, 3);
    }

    private static void promise2Full() {
        Run run = run("announce: FULL if 24 were announced.");
        for (int king = 0; king < 23; king++) {
            run.is("announce(5, 50, 0)", king);
        }
        run.is("announce(1, 0, 9999)", 23).full("announce(1, 0, 0)", "announce(9, 120, 9999)");
        run.is("count(1)", 24).is("count(2)", 24).is("count(15)", 4);
    }

    private static void promise2OrderOfErrors() {
        Run run = run("announce: BAD_VALUE; NOT_POSSIBLE; FULL.");
        run.then("pass(1)").badValue("announce(0, 50, 0)", "announce(10, 50, 0)", "announce(5, -1, 0)");
        run.badValue("announce(5, 121, 0)").notPossible("announce(5, 50, 0)");
        for (int king = 0; king < 24; king++) {
            run.is("announce(5, 50, 1)", king);
        }
        run.badValue("announce(0, 50, 1)", "announce(5, 121, 1)", "announce(5, 50, -1)", "announce(0, 50, 0)");
        run.notPossible("announce(5, 50, 0)").full("announce(5, 50, 1)");
    }

    private static void promise3WhatHeDidBefore() {
        Run run = run("leave: Returns what he did before: 0 to 2.");
        run.then("set(0, 1)", "announce(5, 50, 0)", "announce(5, 50, 0)", "announce(5, 50, 1)", "pass(1)");
        run.is("leave(2)", 0).is("count(2)", 0).is("leave(1)", 1).is("count(3)", 0).is("leave(0)", 2).is("count(4)", 0);
        for (int king = 0; king < 3; king++) {
            run.is("king(" + king + ", 3)", 3).is("king(" + king + ", 8)", 0);
            run.none("king(" + king + ", 4)", "king(" + king + ", 5)");
        }
        run.is("count(5)", 3).is("count(6)", 0).then("pass(1)").table().hall();
    }

    private static void promise3Unknown() {
        Run run = run("leave: UNKNOWN.");
        run.unknown("leave(0)", "leave(-1)", "leave(" + Integer.MIN_VALUE + ")", "leave(" + Integer.MAX_VALUE + ")");
        run.then("announce(5, 50, 0)").unknown("leave(1)", "leave(-1)").is("leave(0)", 0).unknown("leave(1)");
        run = run("leave: UNKNOWN where all 24 kings are.");
        for (int king = 0; king < 24; king++) {
            run.then("announce(5, 50, 0)");
        }
        run.unknown("leave(24)", "leave(-1)").is("leave(23)", 0);
    }

    private static void promise3HasLeft() {
        Run run = run("leave: NOT_POSSIBLE if he has left.");
        run.then("set(1, 1)", "set(2, 0)", "set(3, 1)", "announce(1, 0, 0)", "announce(2, 0, 1)", "announce(3, 0, 9)");
        run.then("pass(2)").is("king(1, 8)", 1).notPossible("leave(1)").is("leave(0)", 2).notPossible("leave(0)");
        run.is("leave(2)", 0).notPossible("leave(2)").then("pass(9)").is("count(5)", 3).notPossible("leave(2)");
        run.then("undo()", "undo()").is("king(2, 3)", 0).is("leave(2)", 0);
    }

    private static void promise3MoveUp() {
        Run run = run("leave: Those below move up.");
        run.then("set(0, 3)", "set(1, 60)");
        for (int king = 0; king < 7; king++) {
            run.then("announce(5, 50, 0)");
        }
        run.then("pass(1)").table(0, 1, 2).hall(3, 4, 5, 6);
        run.is("leave(3)", 1).hall(4, 5, 6).is("leave(5)", 1).hall(4, 6).is("leave(6)", 1).hall(4);
        run.is("leave(2)", 2).table(0, 1).is("leave(0)", 2).table(1).hall(4);
        run.then("pass(1)").table(1, 4).hall();
    }

    private static void promise4NobodySitsThere() {
        Run run = run("send: UNKNOWN if nobody sits there, or on the one below.");
        run.unknown("send(0)", "send(-1)").then("announce(1, 0, 0)", "announce(2, 0, 1)", "pass(1)");
        run.unknown("send(0)", "send(1)", "send(-1)").then("pass(1)").table(0, 1);
        run.unknown("send(1)", "send(2)", "send(-1)", "send(11)", "send(12)");
        run.unknown("send(" + Integer.MAX_VALUE + ")", "send(" + Integer.MIN_VALUE + ")");
        run.is("send(0)", 1).table(1, 0).is("count(10)", 1).then("leave(0)").unknown("send(0)");
    }

    private static void promise4AtAFullTable() {
        Run run = run("send: at a table of twelve.");
        run.seated(9, 9, 9, 9, 9, 9, 9, 9, 9, 9, 1, 2).unknown("send(11)", "send(12)");
        run.is("send(10)", 11).table(0, 1, 2, 3, 4, 5, 6, 7, 8, 9, 11, 10);
        run.notPossible("send(10)", "send(9)", "send(0)");
    }

    private static void promise4NotTheGreaterKing() {
        Run run = run("send: NOT_POSSIBLE if the lower one is not the greater king.");
        run.then("announce(5, 50, 0)", "announce(5, 50, 1)", "announce(5, 51, 2)", "announce(6, 0, 3)", "pass(4)");
        run.notPossible("send(0)").is("send(2)", 3).notPossible("send(2)").table(0, 1, 3, 2);
        run.is("send(1)", 3).is("send(0)", 3).table(3, 0, 1, 2).is("send(2)", 2).is("send(1)", 2).table(3, 2, 0, 1);
        run.notPossible("send(0)", "send(1)", "send(2)").unknown("send(3)").is("count(10)", 5).is("count(15)", 4);
    }

    private static void promise5Unknown() {
        Run run = run("set: which: 0 to 3; UNKNOWN.");
        run.unknown("set(-1, 5)", "set(4, 5)");
        run.unknown("set(" + Integer.MIN_VALUE + ", 5)", "set(" + Integer.MAX_VALUE + ", 5)");
        run.unknown("set(-1, 0)", "set(4, 99)", "set(4, -1)");
        run.is("set(0, 5)", 8).is("set(1, 5)", 10).is("set(2, 5)", 3).is("set(3, 5)", 4);
    }

    private static void promise5Ranges() {
        int[] first = {8, 10, 3, 4};
        int[] least = {1, 1, 0, 1};
        int[] most = {12, 60, 9, 9};
        for (int which = 0; which < 4; which++) {
            Run run = run("set: value: in its range; BAD_VALUE.");
            String set = "set(" + which + ", ";
            run.badValue(set + (least[which] - 1) + ")", set + (most[which] + 1) + ")", set + "-1)", set + "61)");
            run.badValue(set + Integer.MIN_VALUE + ")", set + Integer.MAX_VALUE + ")");
            run.is(set + least[which] + ")", first[which]).is("count(" + (11 + which) + ")", least[which]);
            run.is(set + most[which] + ")", least[which]).is("count(" + (11 + which) + ")", most[which]);
            run.badValue(set + (least[which] - 1) + ")", set + (most[which] + 1) + ")");
            run.is(set + first[which] + ")", most[which]);
            for (int other = 0; other < 4; other++) {
                run.is("count(" + (11 + other) + ")", first[other]);
            }
        }
    }

    private static void promise5MoreKingsSit() {
        Run run = run("set: NOT_POSSIBLE if more kings sit than there would be seats.");
        run.then("set(0, 2)", "announce(5, 50, 0)", "announce(5, 50, 0)", "announce(5, 50, 0)", "pass(1)").hall(2);
        run.notPossible("set(0, 1)").badValue("set(0, 0)").is("set(0, 3)", 2).is("set(0, 2)", 3).table(0, 1);
        run.then("leave(0)").is("set(0, 1)", 2).table(1).hall(2).then("leave(1)").is("set(0, 2)", 1).is("set(0, 1)", 2);
        run = run("set: NOT_POSSIBLE if twelve sit.");
        run.seated(5, 5, 5, 5, 5, 5, 5, 5, 5, 5, 5, 5).notPossible("set(0, 11)", "set(0, 1)").none("set(0, 12)");
        run.then("leave(5)").notPossible("set(0, 10)").is("set(0, 11)", 12);
    }

    private static void promise5SoAlready() {
        Run run = run("set: NONE if it is so already.");
        run.none("set(0, 8)", "set(1, 10)", "set(2, 3)", "set(3, 4)").is("count(15)", 0);
        run.is("set(2, 4)", 3).none("set(2, 4)").is("set(2, 3)", 4).none("set(2, 3)").is("count(15)", 2);
        run.is("set(0, 1)", 8).then("announce(5, 50, 0)", "pass(1)").none("set(0, 1)");
    }

    private static void promise6Arguments() {
        Run run = run("pass: minutes: 1 to 99; BAD_VALUE.");
        run.badValue("pass(0)", "pass(-1)", "pass(100)");
        run.badValue("pass(" + Integer.MIN_VALUE + ")", "pass(" + Integer.MAX_VALUE + ")").is("count(0)", 0);
        run.is("pass(1)", 0).is("count(0)", 1).is("pass(99)", 10).is("count(0)", 100);
    }

    private static void promise6HowManyRounds() {
        Run run = run("pass: Returns how many rounds there are in them.");
        run.is("pass(9)", 0).is("pass(10)", 1).is("pass(1)", 1).is("pass(20)", 2).is("count(7)", 4);
        run.then("set(1, 1)").is("pass(1)", 1).is("pass(99)", 99).then("set(1, 60)").is("count(0)", 140);
        run.is("pass(39)", 0).is("pass(60)", 1).is("pass(1)", 1).is("pass(99)", 1).is("count(7)", 107);
        run.is("count(8)", 0);
    }

    private static void promise6BeyondTheLastMinute() {
        Run run = run("pass: FULL if the minute would be beyond 99999.");
        run.text(FULL_OF_MINUTES);
        for (int time = 0; time < 67; time++) {
            run.is("perform()", 15);
        }
        run.is("count(0)", 99495).is("pass(99)", 10).is("pass(99)", 10).is("pass(99)", 10).is("pass(99)", 10);
        run.is("pass(9)", 1).is("count(0)", 99900).is("pass(99)", 9).is("undo()", 3).is("pass(1)", 0);
        run.is("count(0)", 99901).is("pass(98)", 9).is("undo()", 3).full("pass(99)").badValue("pass(100)", "pass(0)");
        run.is("pass(97)", 9).is("count(0)", 99998).full("pass(2)", "pass(99)").is("pass(1)", 0);
        run.is("count(0)", 99999).full("pass(1)", "pass(99)").badValue("pass(0)", "pass(100)", "pass(-1)");
        run.is("count(0)", 99999).is("count(7)", 9999).is("count(8)", 0).none("nextArrival()");
        run.notPossible("announce(5, 50, 9999)").badValue("announce(5, 50, 99999)");
    }

    private static void promise7Full() {
        Run run = run("type: Returns the length of the text then; FULL if it has 60 characters.");
        for (int length = 0; length < 60; length++) {
            run.is("count(16)", length).typed("l");
        }
        run.typedBeyond('l').typedBeyond('.').is("count(16)", 60).is("clearText()", 60).typed(".1").is("perform()", 1);
        run.is("count(16)", 2).is("count(15)", 1);
    }

    private static void promise7AnyCharacter() {
        char[] signs = {(char) 0, ' ', '/', ':', 'K', (char) 127, (char) 128, (char) 255, (char) 256, (char) 65535};
        Run run = run("type: any character.");
        for (char sign : signs) {
            run.text(String.valueOf(sign)).is("perform()", -100).text(".1" + sign).is("perform()", -102);
        }
        // Signs that are like 'k', '.' or '1' but for their upper half are others.
        for (char sign : new char[] {'k' + 256, '.' + 256, '1' + 512, ';' + 256}) {
            run.text(String.valueOf(sign)).is("perform()", -100).text("." + sign).is("perform()", -101);
        }
        run.is("count(15)", 0);
    }

    private static void promise8LengthThatItHad() {
        Run run = run("clearText: Returns the length that it had.");
        run.is("clearText()", 0).typed("k").is("clearText()", 1).is("clearText()", 0).is("count(16)", 0);
        run.typed(FULL_OF_MINUTES).is("clearText()", 59).typed(FULL_OF_MINUTES).typed(";").typedBeyond('.');
        run.is("clearText()", 60).is("clearText()", 0).is("perform()", -100).is("count(15)", 0);
    }

    private static void promise9HowManyThings() {
        Run run = run("perform: Returns how many things the text has.");
        run.text(".1").is("perform()", 1).typed(";.1").is("perform()", 2).is("count(0)", 3).is("count(16)", 5);
        run.text(".1;.1;.1;.1;.1;.1;.1;.1;.1;.1;.1;.1;.1;.1;.1;.1;.1;.1;.1;.1").is("perform()", 20);
        run.is("count(0)", 23).typed("9").is("count(16)", 60).is("perform()", 20).is("count(0)", 61);
    }

    private static void promise9Fault() {
        Run run = run("perform: -100 minus the fault of the text if it has one (which is an error).");
        run.is("perform()", -100).typed("k").is("perform()", -101).typed("5").is("perform()", -102);
        run.text(".5;l0;l1;.0").is("perform()", -110).is("count(0)", 0).is("count(15)", 0);
        // A fault is told ahead of a stop that is before it in the text.
        run.text("l5;x").is("perform()", -103).none("stopped(0)", "stopped(1)");
    }

    private static void promise9AllOrNothing() {
        Run run = run("perform: All of it, or nothing.");
        run.then("set(1, 1)", "announce(1, 50, 0)", "announce(2, 50, 1)", "pass(2)", "keep()");
        run.text("k5.5@9;.9;l0;k6.6@20;l1;l2").is("perform()", 6).is("count(1)", 4).is("count(0)", 11);
        run.is("undo()", 3).is("count(1)", 2).is("count(0)", 2).typed(";l3;l3").notPossible("perform()");
        run.is("stopped(0)", 7).is("count(1)", 2).is("count(0)", 2).is("count(7)", 2).table(1, 0);
    }

    private static void promise9OneByOne() {
        Run run = run("perform: Does all that the text tells, which stays, one after the other.");
        run.text(".1;k5.5@1").is("perform()", 2).text("k9.9@1;.1;k8.8@2;.1;l0;l2").is("perform()", 6);
        run.is("count(16)", 25).table(1).is("count(0)", 3).notPossible("perform()").is("stopped(0)", 0);
        run.text(".8").is("perform()", 1).is("king(1, 6)", 1).is("king(0, 6)", 0);
    }

    private static void promise9OneAct() {
        Run run = run("perform: This is one act.");
        run.text(".1;.1;.1;.1;.1;.1").is("perform()", 6).is("count(15)", 1).is("undo()", 0).is("count(0)", 0);
        run.is("perform()", 6).is("perform()", 6).is("perform()", 6).is("perform()", 6).is("count(15)", 4);
        run.is("perform()", 6).is("count(15)", 4).is("undo()", 3).is("undo()", 2).is("undo()", 1).is("undo()", 0);
        run.is("count(0)", 6).none("undo()");
    }

    private static void promise9StoppedByAnnounce() {
        Run run = run("perform: What would return an error stops it: announce().");
        run.text(".1;k5.5@1;k5.5@0").notPossible("perform()").is("stopped(0)", 2).is("stopped(1)", -4);
        for (int king = 0; king < 23; king++) {
            run.then("announce(5, 50, 0)");
        }
        run.text("k5.5@1;.1;k5.5@0").notPossible("perform()").is("stopped(0)", 2).is("stopped(1)", -4);
        run.text("k5.5@1;.1;k5.5@1").notPossible("perform()").is("stopped(0)", 2).is("stopped(1)", -3);
        run.text("k5.5@1;.1;l23").is("perform()", 3).is("count(1)", 24).is("king(23, 3)", 3);
        run.text("k5.5@0").notPossible("perform()").is("stopped(0)", 0).is("stopped(1)", -4);
        run.text("k5.5@1").notPossible("perform()").is("stopped(0)", 0).is("stopped(1)", -3);
    }

    private static void promise9StoppedByLeave() {
        Run run = run("perform: What would return an error stops it: leave().");
        run.text("l0").notPossible("perform()").is("stopped(0)", 0).is("stopped(1)", -1);
        run.text("k5.5@0;l0;l1").notPossible("perform()").is("stopped(0)", 2).is("stopped(1)", -1);
        run.text("k5.5@0;l0;l0").notPossible("perform()").is("stopped(0)", 2).is("stopped(1)", -4);
        run.text("k5.5@0;l0").is("perform()", 2).is("perform()", KingsBanquet.NOT_POSSIBLE).is("stopped(0)", 1);
        run.is("stopped(1)", -4).is("count(1)", 1).is("count(5)", 1);
    }

    private static void promise9StoppedByPass() {
        Run run = run("perform: What would return an error stops it: pass().");
        run.text(FULL_OF_MINUTES);
        for (int time = 0; time < 67; time++) {
            run.is("perform()", 15);
        }
        run.notPossible("perform()").is("stopped(0)", 5).is("stopped(1)", KingsBanquet.FULL).is("count(0)", 99495);
        run.text(".99;.99;.99;.99;.99;.10").notPossible("perform()").is("stopped(0)", 5).is("count(0)", 99495);
        run.text(".99;.99;.99;.99;.99;.9").is("perform()", 6).is("count(0)", 99999);
        run.text(".1").notPossible("perform()").is("stopped(0)", 0).is("stopped(1)", KingsBanquet.FULL);
    }

    private static void promise10Arguments() {
        Run run = run("stopped: what: 0 or 1; BAD_VALUE; NONE if nothing was stopped yet.");
        run.badValue("stopped(-1)", "stopped(2)", "stopped(" + Integer.MAX_VALUE + ")");
        run.none("stopped(0)", "stopped(1)").is("perform()", -100).none("stopped(0)", "stopped(1)");
        run.text(".1").is("perform()", 1).unknown("leave(0)").none("stopped(0)", "stopped(1)");
        run.text("l0").notPossible("perform()").is("stopped(0)", 0).is("stopped(1)", KingsBanquet.UNKNOWN);
        run.badValue("stopped(-1)", "stopped(2)", "stopped(" + Integer.MIN_VALUE + ")");
    }

    private static void promise10LatestStop() {
        Run run = run("stopped: Tells of the latest stop of perform(): its number in the text, from 0, and the error.");
        run.text(".1;.1;.1;.1;.1;.1;.1;.1;.1;.1;.1;.1;.1;.1;.1;.1;.1;.1;.1;l0").notPossible("perform()");
        run.is("stopped(0)", 19).is("stopped(1)", KingsBanquet.UNKNOWN).is("count(0)", 0);
        run.text("k5.5@0;.1;l0").is("perform()", 3).is("stopped(0)", 19).is("stopped(1)", KingsBanquet.UNKNOWN);
        run.text("l0").notPossible("perform()").is("stopped(0)", 0).is("stopped(1)", KingsBanquet.NOT_POSSIBLE);
        run.is("clearText()", 2).is("perform()", -100).is("stopped(0)", 0).is("stopped(1)", KingsBanquet.NOT_POSSIBLE);
    }

    private static void promise11StatesLeft() {
        Run run = run("undo: Returns the number of states that are left; NONE if the history is empty.");
        run.none("undo()").then("pass(1)").is("undo()", 0).none("undo()").is("count(0)", 0).is("count(15)", 0);
        run.then("pass(1)", "pass(1)", "pass(1)", "pass(1)", "pass(1)").is("count(15)", 4);
        run.is("undo()", 3).then("pass(9)").is("count(15)", 4).is("undo()", 3).is("count(0)", 4);
        run.is("undo()", 2).is("undo()", 1).is("undo()", 0).none("undo()", "undo()").is("count(0)", 1);
    }

    private static void promise11EveryAct() {
        Run run = run("undo: Each call of a method that is described as an act records the state that was before it.");
        run.then("announce(1, 50, 0)").is("undo()", 0).is("count(1)", 0);
        run.then("announce(1, 50, 0)", "leave(0)").is("undo()", 1).is("king(0, 3)", 0);
        run.then("announce(2, 50, 1)", "pass(2)").is("count(15)", 3).then("send(0)").table(1, 0);
        run.is("undo()", 3).table(0, 1).then("set(3, 9)").is("undo()", 3).is("count(14)", 4);
        run.text("l0;.1").is("perform()", 2).is("undo()", 3).is("count(0)", 2).table(0, 1);
        run.is("keep()", 2).then("leave(0)", "restore()").is("undo()", 3).table(1);
        run.is("undo()", 2).table(0, 1).is("undo()", 1).is("count(0)", 0).is("count(1)", 2).table();
        run.is("undo()", 0).is("count(1)", 1).none("undo()");
    }

    private static void promise12HowManySit() {
        Run run = run("keep: Returns how many kings sit.");
        run.is("keep()", 0).seated(5, 5, 5, 5, 5, 5, 5, 5, 5, 5, 5, 5).is("keep()", 12).then("leave(0)");
        run.is("keep()", 11).is("count(15)", 4).is("undo()", 3).is("keep()", 12);
        run = run("keep: who waits does not sit.");
        run.then("set(0, 1)", "announce(5, 50, 0)", "announce(5, 50, 0)", "announce(5, 50, 9)").is("keep()", 0);
        run.then("pass(1)").is("keep()", 1).then("leave(0)").is("keep()", 0);
    }

    private static void promise12InPlace() {
        Run run = run("keep: Takes a snapshot of the state, in place of the one that was.");
        run.is("keep()", 0).then("pass(1)").is("keep()", 0).then("pass(1)").is("restore()", 0).is("count(0)", 1);
        run.is("undo()", 2).is("count(0)", 2).is("keep()", 0).then("pass(1)").is("restore()", 0).is("count(0)", 2);
    }

    private static void promise13NoSnapshot() {
        Run run = run("restore: NONE if there is no snapshot.");
        run.none("restore()").then("announce(5, 50, 0)", "pass(1)").none("restore()").is("count(15)", 2);
        run.is("keep()", 1).is("restore()", 1).is("undo()", 2).is("undo()", 1).is("restore()", 1);
    }

    private static void promise13Stays() {
        Run run = run("restore: Restores the state of the snapshot, which stays; returns how many kings sit then.");
        run.seated(5, 6, 7).then("keep()", "leave(0)", "leave(1)", "leave(2)").table();
        run.is("restore()", 3).table(0, 1, 2).then("send(0)", "pass(20)").is("restore()", 3).table(0, 1, 2);
        run.is("count(10)", 0).is("count(0)", 3).is("restore()", 3).is("restore()", 3).is("count(15)", 4);
        run.none("set(0, 12)").is("restore()", 3).is("undo()", 3).table(0, 1, 2);
    }

    private static void promise13IsAnAct() {
        Run run = run("restore: This is an act.");
        run.is("keep()", 0).is("restore()", 0).is("count(15)", 1).is("restore()", 0).is("count(15)", 2);
        run.then("restore()", "restore()").is("count(15)", 4).is("restore()", 0).is("count(15)", 4);
        run.then("pass(1)").is("restore()", 0).is("count(0)", 0).is("undo()", 3).is("count(0)", 1);
    }
}
