import java.util.NoSuchElementException;

/** The promises 26 to 37: ordinary inputs, edges and wrong inputs. */
public final class TextsTest {
    private static final Class<?> REFUSED = UnsupportedOperationException.class;
    private static final Class<?> NO_INDEX = IndexOutOfBoundsException.class;
    private static final Class<?> BAD_ARGUMENT = IllegalArgumentException.class;
    private static final Class<?> BAD_STATE = IllegalStateException.class;
    private static final Class<?> NO_ELEMENT = NoSuchElementException.class;
    private static final Class<?> NO_NUMBER = ArithmeticException.class;
    private static final int[] WILD = {Integer.MIN_VALUE, -1000, -1, 1000, Integer.MAX_VALUE};

    private static final Checks due = new Checks();

    public static void main(String[] args) {
        promise26Append();
        promise27Commands();
        promise27Faults();
        promise28FaultPosition();
        promise29Reason();
        promise30Line();
        promise31Character();
        promise32MeanTemper();
        promise33Share();
        promise34Account();
        promise35Undo();
        promise36Save();
        promise37Restore();
        due.end();
    }

    private static void promise26Append() {
        due.part("promise 26");
        Pump p = new Pump();
        for (int k = 1; k <= 60; k++) {
            due.is("append", k, p.append((char) (k * 1000)));
            due.is("the characters", k, p.account(15));
        }
        due.isThrown("append", BAD_STATE, p, () -> p.append('v'));
        due.isThrown("append", BAD_STATE, p, () -> p.append('\uffff'));
        due.is("the changes", 0, p.account(14));
        due.isThrownOnly("commands", BAD_ARGUMENT, p::commands);
        due.is("append", 1, p.append('v'));
        p.collect(1);
        p.undo();
        p.save();
        p.restore();
        due.is("the buffer stays", 1, p.account(15));
    }

    private static void promise27Commands() {
        due.part("promise 27");
        Pump p = Checks.pumpOf(new int[][] {{9, 0, 0}, {9, 9, 9}});
        p.collect(30);
        due.is("commands", 7, Checks.say(p, "j0;j1;d3;l0;v;p;r7"));
        due.is("the buffer", 0, p.account(15));
        due.is("the queue", 1, p.account(2));
        due.is("the rain", 7, p.account(11));
        due.is("the coins", 10, p.account(9));
        due.isText("minutes", "d0 h0b10,d0 h1b10,d0 h0b10,d0 law0,d0 leather", Checks.minutes(p));
        due.is("one change", 4, p.account(14));
        p.undo();
        due.is("all are undone", 0, p.account(13));
        due.is("nights of two digits", 2, Checks.say(p, "n05;n10"));
        due.is("the day", 15, p.account(0));

        refusedText(p, "j2", 3, 2, 0);
        refusedText(p, "j0;j9", 3, 9, 1);
        refusedText(p, "j0;j1;j0", 4, 0, 2);
        refusedText(p, "j0;d5;v;j0", 6, 5, 3);
        refusedText(p, "r1;l0", 5, 0, 1);
        refusedText(p, "l2", 3, 2, 0);
        refusedText(p, "j0;d0", 1, 0, 1);
        refusedText(p, "j0;d51", 1, 0, 1);
        refusedText(p, "j0;d99", 1, 0, 1);
        refusedText(p, "j0;d6", 7, 5, 1);
        refusedText(p, "n0", 1, 0, 0);
        refusedText(p, "v;n51", 1, 0, 1);
        refusedText(p, "p;p", 9, 10, 1);
        Pump empty = new Pump();
        refusedText(empty, "v", 3, 0, 0);
        refusedText(empty, "r9;n9;v", 3, 0, 2);
        due.isRefused("behind a text the command is 0", p, 3, 7, () -> p.leave(7));
        due.isThrownOnly("the empty text", BAD_ARGUMENT, p::commands);
        due.isReason("a fault is no refusal", p, 3, 7, 0);
    }

    private static void refusedText(Pump p, String text, int reason, int detail, int command) {
        String before = Checks.all(p);
        String minutesBefore = Checks.minutes(p);
        due.isThrownOnly(text, REFUSED, () -> Checks.say(p, text));
        due.isText(text + ": nothing is carried out", before, Checks.all(p));
        due.isText(text + ": no minutes", minutesBefore, Checks.minutes(p));
        due.isReason(text, p, reason, detail, command);
        due.is(text + ": no fault", -1, p.faultPosition());
    }

    private static void promise27Faults() {
        due.part("promise 27, faults");
        fault("", 0);
        fault("j", 1);
        fault("jj", 1);
        fault("j10", 2);
        fault("j1;", 3);
        fault("l", 1);
        fault("l00", 2);
        fault("lx", 1);
        fault("r", 1);
        fault("r12", 2);
        fault("d", 1);
        fault("d;", 1);
        fault("d123", 3);
        fault("d1v", 2);
        fault("d12v", 3);
        fault("n", 1);
        fault("n000", 3);
        fault("nv", 1);
        fault("v1", 1);
        fault("v;", 2);
        fault("v;;", 2);
        fault("vv", 1);
        fault("p0", 1);
        fault("p;x", 2);
        fault(";v", 0);
        fault(" v", 0);
        fault("V", 0);
        fault("v; v", 2);
        fault("0", 0);
        fault("h", 0);
        fault("j/", 1);
        fault("j:", 1);
        fault("d1/", 2);
        fault("d1:", 2);
        fault("j\u0661", 1);
        fault("\u016a0", 0);
        fault("\u0000", 0);
        fault("v;v;v;v;v;v;v;v;v;v;v;v;v;v;v;v;v;v;v;v;v;v;v;v;v;v;v;v;v;v;", 60);
        Pump full = Checks.pumpOf(new int[][] {{9, 0, 0}});
        due.is("thirty votes", 30, Checks.say(full, "v;v;v;v;v;v;v;v;v;v;v;v;v;v;v;v;v;v;v;v;v;v;v;v;v;v;v;v;v;v"));
        due.is("the minutes that are kept", 20, full.account(13));
    }

    /** What stands ahead of a fault is not carried out, nothing is undone by it, and no reason is kept. */
    private static void fault(String text, int position) {
        Pump p = Checks.pumpOf(new int[][] {{9, 0, 0}});
        String before = Checks.all(p);
        Checks.write(p, text);
        due.isThrownOnly(text, BAD_ARGUMENT, p::commands);
        due.is(text + ": the fault position", position, p.faultPosition());
        due.isText(text + ": the state", before, Checks.all(p));
        due.isThrownOnly(text + ": no reason", NO_ELEMENT, () -> p.reason(0));
    }

    private static void promise28FaultPosition() {
        due.part("promise 28");
        Pump p = Checks.pumpOf(new int[][] {{9, 0, 0}});
        due.is("no call of commands", -1, p.faultPosition());
        Checks.write(p, "v;;");
        due.is("no call of commands as yet", -1, p.faultPosition());
        due.isThrownOnly("commands", BAD_ARGUMENT, p::commands);
        due.is("the position", 2, p.faultPosition());
        p.collect(1);
        p.undo();
        p.save();
        p.restore();
        due.is("it stays", 2, p.faultPosition());
        due.is("commands", 1, Checks.say(p, "v"));
        due.is("no fault", -1, p.faultPosition());
        due.isThrownOnly("commands", BAD_ARGUMENT, p::commands);
        due.is("the empty text", 0, p.faultPosition());
        due.isThrownOnly("commands", REFUSED, () -> Checks.say(p, "l0"));
        due.is("a refusal is no fault", -1, p.faultPosition());
    }

    private static void promise29Reason() {
        due.part("promise 29");
        Pump p = Checks.pumpOf(new int[][] {{1, 0, 0}, {1, 9, 0}});
        for (int what = 0; what <= 2; what++) {
            int asked = what;
            due.isThrown("nothing was refused", NO_ELEMENT, p, () -> p.reason(asked));
        }
        due.isThrown("reason", BAD_ARGUMENT, p, () -> p.reason(-1));
        due.isThrown("reason", BAD_ARGUMENT, p, () -> p.reason(3));
        due.isThrownOnly("a refused text", REFUSED, () -> Checks.say(p, "j0;j1;j1"));
        due.isReason("it waits", p, 4, 1, 2);
        for (int wild : WILD) {
            due.isThrown("reason", BAD_ARGUMENT, p, () -> p.reason(wild));
        }
        p.join(1);
        p.undo();
        p.save();
        p.restore();
        due.isThrownOnly("another exception", NO_INDEX, () -> p.at(7));
        due.is("commands", 1, Checks.say(p, "j0"));
        due.isReason("it stays", p, 4, 1, 2);
        due.isRefused("collect", p, 1, 0, () -> p.collect(0));
    }

    private static void promise30Line() {
        due.part("promise 30");
        Pump p = Checks.pumpOf(new int[][] {{9, 0, 9}, {9, 1, 9}, {9, 18, 0}});
        p.collect(100);
        due.isThrown("no minute", NO_INDEX, p, () -> p.line(0));
        Checks.say(p, "j0;j1;n3;j2;d1;n50;n50;v;n7;p");
        due.is("line", 7, p.line(0));
        due.isText("a quarrel", "d0 h1x0", Checks.minute(p, 0));
        due.is("line", 8, p.line(1));
        due.isText("a draw", "d3 h2b10", Checks.minute(p, 1));
        due.is("line", 9, p.line(2));
        due.isText("a vote", "d103 law0", Checks.minute(p, 2));
        due.is("line", 12, p.line(3));
        due.isText("a leather", "d110 leather", Checks.minute(p, 3));
        due.isThrown("no minute", NO_INDEX, p, () -> p.line(4));
        due.isThrown("no minute", NO_INDEX, p, () -> p.line(-1));
        for (int wild : WILD) {
            due.isThrown("no minute", NO_INDEX, p, () -> p.line(wild));
        }
        due.isText("the line stays", "d110 leather", Checks.text(p, 12));
        for (int k = 0; k < 16; k++) {
            p.vote();
        }
        due.is("the minutes", 20, p.account(13));
        due.isText("the oldest", "d0 h1x0", Checks.minute(p, 0));
        p.vote();
        due.is("the minutes", 20, p.account(13));
        due.isText("the oldest", "d3 h2b10", Checks.minute(p, 0));
        due.isText("the latest", "d110 law0", Checks.minute(p, 19));
        due.isThrown("no minute", NO_INDEX, p, () -> p.line(20));
        p.undo();
        due.isText("the line stays", "d110 law0", Checks.text(p, 9));
        due.isText("the oldest is there again", "d0 h1x0", Checks.minute(p, 0));
    }

    private static void promise31Character() {
        due.part("promise 31");
        Pump p = Checks.pumpOf(new int[][] {{9, 0, 9}, {9, 1, 9}});
        Checks.say(p, "j0;j1");
        due.isThrown("the line is empty", NO_INDEX, p, () -> p.character(0));
        p.line(0);
        String line = "d0 h0x1";
        for (int k = 0; k < line.length(); k++) {
            due.is("character", line.charAt(k), p.character(k));
        }
        due.isThrown("character", NO_INDEX, p, () -> p.character(7));
        due.isThrown("character", NO_INDEX, p, () -> p.character(-1));
        for (int wild : WILD) {
            due.isThrown("character", NO_INDEX, p, () -> p.character(wild));
        }
        p.save();
        p.night(1);
        p.restore();
        due.is("the line stays", 'x', p.character(5));
        p.vote();
        due.is("the line is not written by itself", 'x', p.character(5));
        due.is("line", 7, p.line(1));
        due.is("the new line", 'w', p.character(5));
    }

    private static void promise32MeanTemper() {
        due.part("promise 32");
        Pump p = new Pump();
        due.isThrown("none", NO_NUMBER, p, () -> (long) p.meanTemper());
        p.household(1, 0, 9);
        due.isNumber("of one", 9f, p.meanTemper());
        p.household(1, 1, 1);
        due.isNumber("of two", 5f, p.meanTemper());
        p.household(1, 19, 0);
        due.isNumber("of three", 10f / 3f, p.meanTemper());
        Checks.say(p, "j0;j1");
        due.isNumber("9 stays 9 and 1 becomes 0", 3f, p.meanTemper());
        p.household(1, 19, 0);
        due.isNumber("not rounded", 2.25f, p.meanTemper());
        for (int k = 0; k < 4; k++) {
            p.household(1, 10, 2);
        }
        due.isNumber("of eight", 2.125f, p.meanTemper());
    }

    private static void promise33Share() {
        due.part("promise 33");
        Pump p = Checks.pumpOf(new int[][] {{9, 0, 0}, {9, 9, 0}, {9, 18, 0}});
        due.isThrown("nothing was drawn", NO_NUMBER, p, () -> (long) p.share(0));
        due.isThrown("no such household", NO_INDEX, p, () -> (long) p.share(3));
        due.isThrown("no such household", NO_INDEX, p, () -> (long) p.share(-1));
        Checks.say(p, "j0;j1;d3");
        due.isNumber("two of three", 20.0 / 30.0, p.share(0));
        due.isNumber("one of three", 10.0 / 30.0, p.share(1));
        due.isNumber("nothing", 0.0, p.share(2));
        for (int wild : WILD) {
            due.isThrown("wild", NO_INDEX, p, () -> (long) p.share(wild));
        }
        Checks.say(p, "n1;j2;d5;n1;j2;d4");
        due.isNumber("by water, not by draws", 88.0 / 118.0, p.share(2));
        due.isNumber("of all water so far", 20.0 / 118.0, p.share(0));
    }

    private static void promise34Account() {
        due.part("promise 34");
        Pump p = Checks.pumpOf(new int[][] {{9, 0, 9}, {9, 1, 9}, {4, 9, 0}, {5, 18, 0}, {5, 18, 0}});
        p.rain(9);
        p.collect(47);
        Checks.say(p, "j0;j1;n6");
        Checks.say(p, "p;v;j0;j2;d3");
        Checks.write(p, "v;");
        int[] accounts = {6, 5, 2, 969, 30, 41, 3, 1, 3, 27, 0, 9, 0, 6, 8, 2};
        for (int what = 0; what < accounts.length; what++) {
            due.is("account " + what, accounts[what], p.account(what));
        }
        due.isThrown("account", BAD_ARGUMENT, p, () -> p.account(-1));
        due.isThrown("account", BAD_ARGUMENT, p, () -> p.account(16));
        for (int wild : WILD) {
            due.isThrown("account", BAD_ARGUMENT, p, () -> p.account(wild));
        }
    }

    private static void promise35Undo() {
        due.part("promise 35");
        Pump p = new Pump();
        due.isThrown("undo", BAD_STATE, p, p::undo);
        String[] states = new String[13];
        states[0] = Checks.all(p);
        for (int k = 1; k <= 12; k++) {
            change(p, k);
            states[k] = Checks.all(p);
            due.is("the changes", Math.min(8, k), p.account(14));
        }
        for (int left = 7; left >= 0; left--) {
            due.is("undo", left, p.undo());
            String state = Checks.all(p);
            due.isText("the state", withoutChanges(states[4 + left]), withoutChanges(state));
        }
        due.isThrown("undo", BAD_STATE, p, p::undo);
        due.is("a change behind an undo", 9, p.rain(4));
        due.is("undo", 0, p.undo());
        due.is("the rain", 9, p.account(11));
        undoForgetsNoOtherCalls();
    }

    /** Twelve changes, each kind at least once. */
    private static void change(Pump p, int number) {
        switch (number) {
            case 1 -> p.household(9, 0, 9);
            case 2 -> p.household(8, 1, 9);
            case 3 -> p.rain(9);
            case 4 -> p.collect(77);
            case 5 -> p.join(0);
            case 6 -> p.join(1);
            case 7 -> p.draw(3);
            case 8 -> p.leather();
            case 9 -> p.leave(0);
            case 10 -> p.night(7);
            case 11 -> p.vote();
            default -> Checks.say(p, "j0;j1;d1;l0;j1;r4;n1;v");
        }
    }

    /** The account of the changes themselves is no part of what is undone. */
    private static String withoutChanges(String state) {
        String[] words = state.split(" ", 17);
        words[15] = "?";
        return String.join(" ", words);
    }

    private static void undoForgetsNoOtherCalls() {
        Pump p = Checks.pumpOf(new int[][] {{9, 0, 0}});
        p.possible();
        p.save();
        due.isRefused("leave", p, 5, 0, () -> p.leave(0));
        due.isThrownOnly("a refused text", REFUSED, () -> Checks.say(p, "j0;j0"));
        due.isThrownOnly("a fault", BAD_ARGUMENT, () -> Checks.say(p, "j0;"));
        due.is("one change", 1, p.account(14));
        Checks.write(p, "v");
        due.is("undo", 0, p.undo());
        due.is("no households", 0, p.account(1));
        due.is("the text stays", 1, p.account(15));
        due.isReason("the reason stays", p, 4, 0, 1);
        due.is("the fault stays", 3, p.faultPosition());
        due.is("the snapshot stays", 0, p.restore());
        due.is("the household", 1, p.account(1));
    }

    private static void promise36Save() {
        due.part("promise 36");
        Pump p = Checks.pumpOf(new int[][] {{9, 0, 0}});
        due.is("save", 0, p.save());
        due.is("no change", 1, p.account(14));
        p.night(3);
        due.is("save in place of the earlier one", 3, p.save());
        p.night(4);
        due.is("restore", 3, p.restore());
        due.is("the day", 3, p.account(0));
        due.is("the well", 560, p.account(3));
    }

    private static void promise37Restore() {
        due.part("promise 37");
        Pump p = Checks.pumpOf(new int[][] {{9, 0, 9}, {9, 1, 9}, {9, 2, 9}});
        due.isThrown("restore", BAD_STATE, p, p::restore);
        p.collect(50);
        Checks.say(p, "j0;d2;j1;r9;n6;p;j2;j1;v;r3");
        p.save();
        String saved = Checks.all(p);
        String savedMinutes = Checks.minutes(p);
        Checks.say(p, "d3;l1;j0;r0;n9;p;v;j1;d1");
        p.household(1, 1, 1);
        p.collect(1);
        String later = Checks.all(p);
        for (int k = 0; k < 2; k++) {
            due.is("restore", 6, p.restore());
            due.is("no changes", 0, p.account(14));
            due.isText("the state", withoutChanges(saved), withoutChanges(Checks.all(p)));
            due.isText("the minutes", savedMinutes, Checks.minutes(p));
            due.isThrown("undo", BAD_STATE, p, p::undo);
            Checks.say(p, "d3;l1;j0;r0;n9;p;v;j1;d1");
            p.household(1, 1, 1);
            p.collect(1);
            due.isText("the same calls", withoutChanges(later), withoutChanges(Checks.all(p)));
        }
        due.is("undo of what came behind", 2, p.undo());
        restoreOtherHouseholds();
        restoreLawAndDrought();
    }

    private static void restoreOtherHouseholds() {
        Pump p = new Pump();
        p.household(3, 4, 5);
        p.save();
        String saved = Checks.all(p);
        p.undo();
        p.household(9, 19, 0);
        p.restore();
        due.isText("the households", withoutChanges(saved), withoutChanges(Checks.all(p)));
    }

    private static void restoreLawAndDrought() {
        Pump p = Checks.dryPump(new int[][] {{2, 0, 9}, {9, 9, 9}, {8, 18, 9}});
        p.household(9, 3, 2);
        p.household(9, 6, 2);
        p.household(1, 10, 0);
        p.household(9, 13, 5);
        p.night(1);
        due.is("vote", 0, p.vote());
        due.is("drought", 1, p.account(12));
        due.is("the half turns", 3, p.householdOf(1, 3));
        p.save();
        p.rain(9);
        p.night(50);
        due.is("no drought", 0, p.account(12));
        due.is("undo", 7, p.undo());
        due.is("drought again", 1, p.account(12));
        p.restore();
        due.is("drought of the snapshot", 1, p.account(12));

        Pump q = Checks.pumpOf(new int[][] {{6, 0, 0}, {1, 9, 9}});
        q.save();
        due.is("vote", 2, q.vote());
        due.is("undo", 2, q.undo());
        due.is("the law before", 0, q.account(10));
        q.vote();
        q.save();
        q.restore();
        due.is("the law that was saved", 2, q.account(10));
        Checks.say(q, "j0;j1;d3");
        String minutes = Checks.minutes(q);
        q.save();
        q.undo();
        Checks.say(q, "v;v;v;v");
        q.restore();
        due.isText("the minutes that were saved", minutes, Checks.minutes(q));
    }
}
