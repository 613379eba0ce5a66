/** Promises 7 to 10: the text, and what it tells. */
public final class TextsTest {
    private static final Due DUE = new Due("TextsTest");

    public static void main(String[] args) {
        promise7Type();
        promise8ClearText();
        promise9Faults();
        promise9Numbers();
        promise9Perform();
        promise9AllOrNothing();
        promise10Stopped();
        promise10StoppedLasts();
        DUE.end();
    }

    private static void write(KingsBanquet x, String text) {
        x.clearText();
        for (char sign : text.toCharArray()) {
            x.type(sign);
        }
    }

    private static int performed(String text) {
        KingsBanquet x = new KingsBanquet();
        write(x, text);
        return x.perform();
    }

    private static void promise7Type() {
        KingsBanquet x = new KingsBanquet();
        char[] signs = {'k', (char) 0, (char) 233, (char) 8364, (char) 65535, ' '};
        for (int at = 0; at < 60; at++) {
            DUE.is("type", x.type(signs[at % signs.length]), at + 1);
        }
        DUE.is("type, full", x.type('k'), KingsBanquet.FULL);
        DUE.is("type: count(16)", x.count(16), 60);
        DUE.is("type: count(15)", x.count(15), 0);
        DUE.is("type: perform()", x.perform(), -101);
    }

    private static void promise8ClearText() {
        KingsBanquet x = new KingsBanquet();
        DUE.is("clearText(), empty", x.clearText(), 0);
        write(x, "k5.5@0");
        DUE.is("clearText()", x.clearText(), 6);
        DUE.is("clearText() again", x.clearText(), 0);
        DUE.is("clearText(): count(16)", x.count(16), 0);
        DUE.is("clearText(): count(15)", x.count(15), 0);
        DUE.is("clearText(): perform()", x.perform(), -100);
        DUE.is("type after it", x.type('.'), 1);
        DUE.is("the old text is gone: perform()", x.perform(), -101);
    }

    private static void promise9Faults() {
        String[] texts = {
            "", "x", "K", "5", ";", "k", "k0", "k:", "k5", "k55", "k5,", "k5.", "k5.x", "k5.5", "k5.5;", "k5.5@",
            "k5.5@x", "k5.5@5x", "k5.5@5 ", "k5.5@5;", "k5.5@5;;", "k5.5@5;k", "l", "lx", "l-1", "l5.", "l5k",
            ".", ".x", ".0", ".01", ".5.", ".5;x", ".5;.", " .5", ".5;.5;.5;.0", "l23;l2x", "k9.120@9999;l23;.99!"
        };
        int[] faults = {
            0, 0, 0, 0, 0, 1, 1, 1, 2, 2, 2, 3, 3, 4, 4, 5,
            5, 6, 6, 7, 7, 8, 1, 1, 1, 2, 2,
            1, 1, 1, 1, 2, 3, 4, 0, 10, 6, 19
        };
        for (int at = 0; at < texts.length; at++) {
            DUE.is("perform of '" + texts[at] + "'", performed(texts[at]), -100 - faults[at]);
        }
        KingsBanquet x = new KingsBanquet();
        write(x, ".5;.0");
        x.perform();
        DUE.is("a fault: count(0)", x.count(0), 0);
        DUE.is("a fault: count(15)", x.count(15), 0);
        DUE.is("a fault: count(16)", x.count(16), 5);
        DUE.is("a fault is no stop: stopped(0)", x.stopped(0), KingsBanquet.NONE);
        write(x, "l5;.0");
        DUE.is("a fault behind what would stop", x.perform(), -104);
        DUE.is("nor is it there: stopped(0)", x.stopped(0), KingsBanquet.NONE);
    }

    private static void promise9Numbers() {
        String[] wrong = {
            "k10.5@0", "k5.121@0", "k5.130@0", "k5.200@0", "k5.00@0", "k5.01@0", "k5.1200@0", "k5.5@10000",
            "k5.5@00", "k5.5@01", "k5.5@99990", "l24", "l30", "l00", "l01", "l230", ".100", ".999", ".00", "k00.5@0"
        };
        int[] faults = {2, 5, 5, 5, 4, 4, 6, 9, 6, 6, 9, 2, 2, 2, 2, 3, 3, 3, 1, 1};
        for (int at = 0; at < wrong.length; at++) {
            DUE.is("perform of '" + wrong[at] + "'", performed(wrong[at]), -100 - faults[at]);
        }
        String[] right = {
            "k1.0@0", "k9.120@9999", "k5.119@10", "k5.99@999", "k5.100@1000", ".1", ".9", ".10", ".99"
        };
        for (String text : right) {
            DUE.is("perform of '" + text + "'", performed(text), 1);
        }
        DUE.is("l0, no such king", performed("l0"), KingsBanquet.NOT_POSSIBLE);
        DUE.is("l23, no such king", performed("l23"), KingsBanquet.NOT_POSSIBLE);
        DUE.is("l19, no such king", performed("l19"), KingsBanquet.NOT_POSSIBLE);
    }

    private static void promise9Perform() {
        KingsBanquet x = new KingsBanquet();
        write(x, "k5.40@0;k9.120@12;.10;l0;k3.7@11");
        DUE.is("perform()", x.perform(), 5);
        DUE.is("perform(): count(0)", x.count(0), 10);
        DUE.is("perform(): count(1)", x.count(1), 3);
        DUE.is("perform(): count(7)", x.count(7), 1);
        DUE.is("perform(): count(15)", x.count(15), 1);
        DUE.is("perform(): count(16), it stays", x.count(16), 32);
        DUE.is("perform(): king(0, 3)", x.king(0, 3), 3);
        DUE.is("perform(): king(0, 6)", x.king(0, 6), 1);
        int[] facts = {9, 120, 12};
        int[] last = {3, 7, 11};
        for (int what = 0; what < 3; what++) {
            DUE.is("perform(): king(1, " + what + ")", x.king(1, what), facts[what]);
            DUE.is("perform(): king(2, " + what + ")", x.king(2, what), last[what]);
        }
        DUE.is("one act: undo()", x.undo(), 0);
        DUE.is("one act: count(0)", x.count(0), 0);
        DUE.is("one act: count(1)", x.count(1), 0);
        DUE.is("the text is no state: count(16)", x.count(16), 32);
        DUE.is("perform() again", x.perform(), 5);
        write(x, ".1;.1;.1;.1;.1;.1;.1;.1;.1;.1;.1;.1;.1;.1;.1;.1;.1;.1;.1;.12");
        DUE.is("60 characters: count(16)", x.count(16), 60);
        DUE.is("20 things", x.perform(), 20);
        DUE.is("20 things: count(0)", x.count(0), 41);
    }

    private static void promise9AllOrNothing() {
        KingsBanquet x = new KingsBanquet();
        x.announce(4, 4, 0);
        write(x, "k5.40@0;.20;l1;l1;.1");
        DUE.is("stopped perform()", x.perform(), KingsBanquet.NOT_POSSIBLE);
        DUE.is("nothing: count(0)", x.count(0), 0);
        DUE.is("nothing: count(1)", x.count(1), 1);
        DUE.is("nothing: count(7)", x.count(7), 0);
        DUE.is("nothing: count(15)", x.count(15), 1);
        DUE.is("nothing: king(0, 3)", x.king(0, 3), 0);
        DUE.is("nothing: count(16), it stays", x.count(16), 20);
    }

    private static void promise10Stopped() {
        KingsBanquet x = new KingsBanquet();
        DUE.is("stopped(-1)", x.stopped(-1), KingsBanquet.BAD_VALUE);
        DUE.is("stopped(2)", x.stopped(2), KingsBanquet.BAD_VALUE);
        DUE.is("stopped(0), nothing yet", x.stopped(0), KingsBanquet.NONE);
        DUE.is("stopped(1), nothing yet", x.stopped(1), KingsBanquet.NONE);
        write(x, "l0");
        x.perform();
        DUE.is("the first thing: stopped(0)", x.stopped(0), 0);
        DUE.is("no such king: stopped(1)", x.stopped(1), KingsBanquet.UNKNOWN);
        write(x, "k1.1@5;l0;l0;l9");
        x.perform();
        DUE.is("he has left: stopped(0)", x.stopped(0), 2);
        DUE.is("he has left: stopped(1)", x.stopped(1), KingsBanquet.NOT_POSSIBLE);
        write(x, ".1;k1.1@0");
        x.perform();
        DUE.is("that minute has passed: stopped(0)", x.stopped(0), 1);
        DUE.is("that minute has passed: stopped(1)", x.stopped(1), KingsBanquet.NOT_POSSIBLE);
        for (int king = 0; king < 23; king++) {
            x.announce(1, 1, 9);
        }
        write(x, "k1.1@1;.2;k1.1@9;k1.1@9");
        DUE.is("a 25th king", x.perform(), KingsBanquet.NOT_POSSIBLE);
        DUE.is("a 25th king: stopped(0)", x.stopped(0), 2);
        DUE.is("a 25th king: stopped(1)", x.stopped(1), KingsBanquet.FULL);
        DUE.is("stopped(2) then", x.stopped(2), KingsBanquet.BAD_VALUE);
    }

    private static void promise10StoppedLasts() {
        KingsBanquet x = new KingsBanquet();
        write(x, ".1;l3");
        x.perform();
        write(x, ".1");
        DUE.is("a perform() without a stop", x.perform(), 1);
        DUE.is("the stop lasts: stopped(0)", x.stopped(0), 1);
        DUE.is("the stop lasts: stopped(1)", x.stopped(1), KingsBanquet.UNKNOWN);
        write(x, "x");
        x.perform();
        DUE.is("it lasts after a fault: stopped(0)", x.stopped(0), 1);
        x.undo();
        DUE.is("it is no state: stopped(0)", x.stopped(0), 1);
        x.leave(7);
        DUE.is("other errors are no stops: stopped(0)", x.stopped(0), 1);
    }
}
