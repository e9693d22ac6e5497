import java.util.NoSuchElementException;

/** The promises 11 to 25: ordinary inputs, edges and wrong inputs. */
public final class QuestionsTest {
    private static final Class<?> NO_INDEX = IndexOutOfBoundsException.class;
    private static final Class<?> BAD_ARGUMENT = IllegalArgumentException.class;
    private static final Class<?> NO_ELEMENT = NoSuchElementException.class;
    private static final int[] WILD = {Integer.MIN_VALUE, -1000, -1, 1000, Integer.MAX_VALUE};

    private static final Checks due = new Checks();

    public static void main(String[] args) {
        promise11HouseholdOf();
        promise12At();
        promise13Neighbours();
        promise14Quarrels();
        promise15WouldWin();
        promise16TurnsBy();
        promise17IsFor();
        promise18MembersFor();
        promise19TurnIn();
        promise20Possible();
        promise21WouldBring();
        promise22WellIn();
        promise23DroughtIn();
        promises24And25Water();
        due.end();
    }

    private static void promise11HouseholdOf() {
        due.part("promise 11");
        Pump p = Checks.pumpOf(new int[][] {{5, 3, 9}, {7, 4, 9}, {9, 9, 1}});
        Checks.say(p, "j2;j1;d2;j0");
        int[][] numbers = {{5, 3, 9, 3, 2, 0, 1, 0, -1}, {7, 4, 8, 4, 3, 1, 0, 10, 1}, {9, 9, 1, 5, 4, 1, 0, 10, 0}};
        for (int k = 0; k < 3; k++) {
            for (int what = 0; what <= 8; what++) {
                due.is("number " + what + " of " + k, numbers[k][what], p.householdOf(k, what));
            }
        }
        due.isThrown("no such household", NO_INDEX, p, () -> p.householdOf(3, 0));
        due.isThrown("no such household", NO_INDEX, p, () -> p.householdOf(-1, 0));
        due.isThrown("no such household", NO_INDEX, p, () -> p.householdOf(3, 9));
        due.isThrown("no such number", BAD_ARGUMENT, p, () -> p.householdOf(2, -1));
        due.isThrown("no such number", BAD_ARGUMENT, p, () -> p.householdOf(2, 9));
        for (int wild : WILD) {
            due.isThrown("wild", NO_INDEX, p, () -> p.householdOf(wild, 0));
            due.isThrown("wild", BAD_ARGUMENT, p, () -> p.householdOf(0, wild));
        }
    }

    private static void promise12At() {
        due.part("promise 12");
        Pump p = Checks.pumpOf(new int[][] {{5, 0, 0}, {7, 5, 0}, {9, 9, 1}});
        due.isThrown("at", NO_INDEX, p, () -> p.at(0));
        Checks.say(p, "j2;j1");
        due.is("at", 2, p.at(0));
        due.is("at", 1, p.at(1));
        due.isThrown("at", NO_INDEX, p, () -> p.at(2));
        due.isThrown("at", NO_INDEX, p, () -> p.at(-1));
        for (int wild : WILD) {
            due.isThrown("at", NO_INDEX, p, () -> p.at(wild));
        }
    }

    private static void promise13Neighbours() {
        due.part("promise 13");
        int[][] six = {{1, 4, 0}, {1, 2, 0}, {1, 1, 0}, {1, 6, 0}, {1, 7, 0}, {1, 4, 0}};
        Pump p = Checks.pumpOf(six);
        due.is("neighbours", 0b101010, p.neighbours(0));
        due.is("neighbours", 0b100101, p.neighbours(1));
        due.is("neighbours", 0b000010, p.neighbours(2));
        due.is("neighbours", 0b110001, p.neighbours(3));
        due.is("neighbours", 0b001000, p.neighbours(4));
        due.is("neighbours", 0b001011, p.neighbours(5));
        p.household(1, 19, 0);
        p.household(1, 17, 0);
        due.is("neighbours", 0b10000000, p.neighbours(6));
        due.is("neighbours", 0b01000000, p.neighbours(7));
        due.isThrown("neighbours", NO_INDEX, p, () -> p.neighbours(8));
        due.isThrown("neighbours", NO_INDEX, p, () -> p.neighbours(-1));
        Pump alone = Checks.pumpOf(new int[][] {{1, 4, 0}});
        due.is("none", 0, alone.neighbours(0));
        due.isThrown("neighbours", NO_INDEX, alone, () -> alone.neighbours(1));
    }

    private static void promise14Quarrels() {
        due.part("promise 14");
        Pump p = Checks.pumpOf(new int[][] {{9, 4, 9}, {9, 4, 9}, {9, 19, 9}});
        Checks.say(p, "j0;j1;j1;j1");
        due.is("0 won", 3, p.quarrels(0, 1));
        due.is("1 won", 0, p.quarrels(1, 0));
        due.is("with itself", 0, p.quarrels(1, 1));
        Checks.say(p, "l0;j1;j0");
        due.is("1 won", 1, p.quarrels(1, 0));
        due.is("0 won", 3, p.quarrels(0, 1));
        due.is("2", 0, p.quarrels(2, 0));
        for (int wrong : new int[] {-1, 3, 8, Integer.MIN_VALUE, Integer.MAX_VALUE}) {
            due.isThrown("quarrels", NO_INDEX, p, () -> p.quarrels(wrong, 0));
            due.isThrown("quarrels", NO_INDEX, p, () -> p.quarrels(0, wrong));
            due.isThrown("quarrels", NO_INDEX, p, () -> p.quarrels(wrong, wrong));
        }
    }

    private static void promise15WouldWin() {
        due.part("promise 15");
        Pump p = Checks.pumpOf(new int[][] {{9, 0, 0}, {9, 10, 0}});
        due.is("without voters the one ahead", 0, p.wouldWin(0, 1));
        due.is("without voters the one ahead", 1, p.wouldWin(1, 0));
        p.household(1, 5, 0);
        due.is("of the same distance the one ahead", 0, p.wouldWin(0, 1));
        due.is("of the same distance the one ahead", 1, p.wouldWin(1, 0));
        p.household(1, 6, 0);
        due.is("as many votes: the one ahead", 0, p.wouldWin(0, 1));
        due.is("both for the one ahead", 1, p.wouldWin(1, 0));
        p.household(1, 19, 0);
        due.is("two against one", 1, p.wouldWin(0, 1));
        due.is("all", 1, p.wouldWin(1, 0));
        due.is("no quarrel took place", 0, p.account(7));
        due.isThrown("the same", BAD_ARGUMENT, p, () -> p.wouldWin(4, 4));
        for (int wrong : new int[] {-1, 5, 8, Integer.MIN_VALUE, Integer.MAX_VALUE}) {
            due.isThrown("wouldWin", NO_INDEX, p, () -> p.wouldWin(wrong, 0));
            due.isThrown("wouldWin", NO_INDEX, p, () -> p.wouldWin(0, wrong));
            due.isThrown("wouldWin", NO_INDEX, p, () -> p.wouldWin(wrong, wrong));
        }
    }

    private static void promise16TurnsBy() {
        due.part("promise 16");
        for (int members = 1; members <= 9; members++) {
            Pump p = Checks.pumpOf(new int[][] {{members, 0, members}});
            int[] halves = {0, 1, 1, 2, 2, 3, 3, 4, 4, 5};
            int[] byTemper = {4, 4, 4, 3, 3, 3, 2, 2, 2, 1};
            due.is("by 0", halves[members], p.turnsBy(0, 0));
            due.is("by 1", 3, p.turnsBy(0, 1));
            due.is("by 2", byTemper[members], p.turnsBy(0, 2));
            due.is("by 3", 1, p.turnsBy(0, 3));
        }
        Pump p = Checks.pumpOf(new int[][] {{1, 0, 0}});
        due.is("by 2", 4, p.turnsBy(0, 2));
        due.isThrown("turnsBy", NO_INDEX, p, () -> p.turnsBy(1, 0));
        due.isThrown("turnsBy", NO_INDEX, p, () -> p.turnsBy(-1, 4));
        due.isThrown("turnsBy", BAD_ARGUMENT, p, () -> p.turnsBy(0, 4));
        due.isThrown("turnsBy", BAD_ARGUMENT, p, () -> p.turnsBy(0, -1));
        for (int wild : WILD) {
            due.isThrown("turnsBy", NO_INDEX, p, () -> p.turnsBy(wild, wild));
            due.isThrown("turnsBy", BAD_ARGUMENT, p, () -> p.turnsBy(0, wild));
        }
    }

    private static void promise17IsFor() {
        due.part("promise 17");
        Pump p = Checks.pumpOf(new int[][] {{9, 0, 0}, {7, 0, 0}, {6, 0, 3}, {6, 0, 2}, {5, 0, 9}, {4, 0, 3},
            {4, 0, 2}, {1, 0, 9}});
        int[] laws = {0, 0, 0, 2, 0, 1, 2, 1};
        for (int k = 0; k < laws.length; k++) {
            due.is("isFor " + k, laws[k], p.isFor(k));
        }
        due.isThrown("isFor", NO_INDEX, p, () -> p.isFor(8));
        due.isThrown("isFor", NO_INDEX, p, () -> p.isFor(-1));
        Pump none = new Pump();
        due.isThrown("isFor", NO_INDEX, none, () -> none.isFor(0));
    }

    private static void promise18MembersFor() {
        due.part("promise 18");
        Pump p = new Pump();
        for (int law = 0; law < 4; law++) {
            due.is("none", 0, p.membersFor(law));
        }
        p.household(9, 0, 0);
        p.household(4, 0, 4);
        p.household(3, 0, 0);
        p.household(3, 0, 4);
        due.is("for 0", 9, p.membersFor(0));
        due.is("for 1", 7, p.membersFor(1));
        due.is("for 2", 3, p.membersFor(2));
        due.is("for 3", 0, p.membersFor(3));
        due.isThrown("membersFor", BAD_ARGUMENT, p, () -> p.membersFor(4));
        due.isThrown("membersFor", BAD_ARGUMENT, p, () -> p.membersFor(-1));
        for (int wild : WILD) {
            due.isThrown("membersFor", BAD_ARGUMENT, p, () -> p.membersFor(wild));
        }
    }

    private static void promise19TurnIn() {
        due.part("promise 19");
        Pump p = Checks.pumpOf(new int[][] {{9, 0, 0}, {7, 0, 0}, {6, 0, 3}, {1, 0, 0}});
        Checks.say(p, "j2;j0;j1");
        due.is("turnIn", 1, p.turnIn(2));
        due.is("turnIn", 2, p.turnIn(0));
        due.is("turnIn", 3, p.turnIn(1));
        p.draw(1);
        due.is("turnIn", 3, p.turnIn(2));
        due.isThrown("turnIn", NO_ELEMENT, p, () -> p.turnIn(3));
        due.isThrown("turnIn", NO_INDEX, p, () -> p.turnIn(4));
        due.isThrown("turnIn", NO_INDEX, p, () -> p.turnIn(-1));
    }

    private static void promise20Possible() {
        due.part("promise 20");
        Pump p = Checks.pumpOf(new int[][] {{9, 0, 0}, {7, 0, 0}, {6, 0, 3}, {1, 0, 0}});
        due.is("possible", 0, p.possible());
        Checks.say(p, "j0;j1;j3");
        due.is("possible", 10, p.possible());
        p.draw(4);
        due.is("possible", 6, p.possible());
        p.draw(6);
        due.is("possible", 0, p.possible());
        p.join(2);
        due.is("possible", 3, p.possible());
        Pump q = Checks.dryPump(new int[][] {{9, 0, 0}, {9, 9, 0}, {9, 18, 0}});
        Checks.say(q, "n1;j0;j1;j2");
        due.is("possible in a drought, whatever water there is", 9, q.possible());
        due.is("all of them", 9 * 5, q.draw(9));
    }

    private static void promise21WouldBring() {
        due.part("promise 21");
        Pump p = Checks.pumpOf(new int[][] {{9, 0, 0}});
        due.is("none", 0, p.wouldBring(0));
        due.is("one", 10, p.wouldBring(1));
        due.is("ten", 100, p.wouldBring(10));
        due.is("eleven", 109, p.wouldBring(11));
        due.is("fifty", 400, p.wouldBring(50));
        due.is("all", 450, p.wouldBring(60));
        due.isThrown("wouldBring", BAD_ARGUMENT, p, () -> p.wouldBring(-1));
        due.isThrown("wouldBring", BAD_ARGUMENT, p, () -> p.wouldBring(61));
        for (int wild : WILD) {
            due.isThrown("wouldBring", BAD_ARGUMENT, p, () -> p.wouldBring(wild));
        }
        Checks.say(p, "j0;d5");
        due.is("five that are new, one that is not", 59, p.wouldBring(6));
        due.is("the wear stays", 5, p.account(8));
        Pump dry = Checks.dryPump(new int[][] {{9, 0, 0}});
        due.is("whatever water there is", 300, dry.wouldBring(60));
    }

    private static void promise22WellIn() {
        due.part("promise 22");
        Pump p = new Pump();
        due.is("wellIn", 500, p.wellIn(0, 999));
        due.is("wellIn", 520, p.wellIn(1, 0));
        due.is("wellIn", 20, p.wellIn(1, 500));
        due.is("wellIn", 20, p.wellIn(1, 999));
        due.is("wellIn", 20, p.wellIn(100, 999));
        due.is("wellIn", 999, p.wellIn(25, 0));
        due.is("wellIn", 999, p.wellIn(100, 0));
        due.is("wellIn", 490, p.wellIn(2, 25));
        due.isThrown("wellIn", BAD_ARGUMENT, p, () -> p.wellIn(-1, 0));
        due.isThrown("wellIn", BAD_ARGUMENT, p, () -> p.wellIn(101, 0));
        due.isThrown("wellIn", BAD_ARGUMENT, p, () -> p.wellIn(0, -1));
        due.isThrown("wellIn", BAD_ARGUMENT, p, () -> p.wellIn(0, 1000));
        for (int wild : WILD) {
            due.isThrown("wellIn", BAD_ARGUMENT, p, () -> p.wellIn(wild, 0));
            due.isThrown("wellIn", BAD_ARGUMENT, p, () -> p.wellIn(0, wild));
        }
        p.rain(9);
        due.is("less is drawn than falls", 560, p.wellIn(6, 80));
        p.night(6);
        due.is("what was spilled is gone", 989, p.wellIn(1, 100));
        due.is("and more is spilled", 999, p.wellIn(2, 90));
        due.is("the well stays", 999, p.account(3));
    }

    private static void promise23DroughtIn() {
        due.part("promise 23");
        Pump p = new Pump();
        due.is("droughtIn", 1, p.droughtIn(421));
        due.is("droughtIn", 2, p.droughtIn(420));
        due.is("all that there is", 1, p.droughtIn(999));
        due.isThrown("droughtIn", NO_ELEMENT, p, () -> p.droughtIn(20));
        due.isThrown("droughtIn", NO_ELEMENT, p, () -> p.droughtIn(24));
        due.is("droughtIn", 81, p.droughtIn(25));
        due.isThrown("droughtIn", BAD_ARGUMENT, p, () -> p.droughtIn(-1));
        due.isThrown("droughtIn", BAD_ARGUMENT, p, () -> p.droughtIn(1000));
        p.rain(0);
        due.isThrown("the well stays", NO_ELEMENT, p, () -> p.droughtIn(0));
        dryToTheHundredthNight();
        Pump dry = Checks.dryPump(new int[][] {{9, 0, 0}, {9, 9, 9}});
        due.is("a day that is not one of drought as yet", 1, dry.droughtIn(0));
        due.is("well", 0, dry.account(12));
        dry.night(1);
        due.is("droughtIn", 0, dry.droughtIn(0));
        due.isThrown("droughtIn", BAD_ARGUMENT, dry, () -> dry.droughtIn(-1));
        dry.rain(9);
        due.is("the present day's one", 0, dry.droughtIn(0));
    }

    private static void dryToTheHundredthNight() {
        Pump p = Checks.pumpOf(new int[][] {{1, 0, 0}});
        p.rain(1);
        // each day takes 4 more than the night gives: 500 less 100 times 4 is 100, which is no drought
        due.isThrown("none within 100 nights", NO_ELEMENT, p, () -> p.droughtIn(14));
        // a thousand less a bit: 499 less 100 times 4 is 99
        Pump q = Checks.pumpOf(new int[][] {{9, 0, 0}, {9, 9, 0}, {9, 18, 0}});
        q.rain(1);
        Checks.say(q, "j0;j1;d10;j2;d1");
        due.is("the well", 391, q.account(3));
        q.night(11);
        due.is("the well", 501, q.account(3));
        due.isThrown("501 less 400", NO_ELEMENT, q, () -> q.droughtIn(14));
        Checks.say(q, "j0;d2");
        due.is("the well", 483, q.account(3));
        due.is("483 less 96 times 4 is 99", 96, q.droughtIn(14));
        q.night(1);
        due.is("493 less 99 times 4 is 97", 99, q.droughtIn(14));
        Checks.say(q, "j0;d3;n3");
        due.is("the well", 496, q.account(3));
        due.is("496 less 100 times 4 is 96", 100, q.droughtIn(14));
    }

    private static void promises24And25Water() {
        due.part("promises 24 and 25");
        Pump p = Checks.pumpOf(new int[][] {{9, 0, 0}});
        p.rain(9);
        for (int day = 0; day < 12; day++) {
            due.is("water", 500 + 90 * day, p.water());
            due.is("waterAgain", 500 + 90 * day, p.waterAgain());
            Checks.say(p, "j0;d3");
            due.is("the parts", p.account(3) + p.account(4) + p.account(5), p.water());
            p.night(1);
        }
        due.is("spilled", 1580 - 999 - p.account(4), p.account(5));
        p.rain(0);
        p.night(50);
        due.is("water", 1580, p.water());
        due.is("waterAgain", 1580, p.waterAgain());
        p.undo();
        p.undo();
        p.undo();
        due.is("water", 1490, p.water());
        due.is("waterAgain", 1490, p.waterAgain());
    }
}
