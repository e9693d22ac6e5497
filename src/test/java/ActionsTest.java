import java.util.NoSuchElementException;

/** The promises 1 to 10: ordinary inputs, edges and wrong inputs. */
public final class ActionsTest {
    private static final Class<?> NO_INDEX = IndexOutOfBoundsException.class;
    private static final Class<?> BAD_STATE = IllegalStateException.class;
    private static final Class<?> NO_ELEMENT = NoSuchElementException.class;
    private static final int[] WILD = {Integer.MIN_VALUE, -1000, -1, 1000, Integer.MAX_VALUE};

    private static final Checks due = new Checks();

    public static void main(String[] args) {
        promise1NewObject();
        promise2Household();
        promise3Join();
        promise3Quarrels();
        promise4Leave();
        promise5Draw();
        promise6Vote();
        promise7Rain();
        promise8Night();
        promise9Collect();
        promise10Leather();
        due.end();
    }

    private static void promise1NewObject() {
        due.part("promise 1");
        Pump p = new Pump();
        int[] accounts = {0, 0, 0, 500, 0, 0, 0, 0, 0, 0, 0, 2, 0, 0, 0, 0};
        for (int what = 0; what < accounts.length; what++) {
            due.is("account " + what, accounts[what], p.account(what));
        }
        due.is("possible", 0, p.possible());
        due.is("water", 500, p.water());
        due.is("waterAgain", 500, p.waterAgain());
        due.is("faultPosition", -1, p.faultPosition());
        due.isThrown("at", NO_INDEX, p, () -> p.at(0));
        due.isThrown("line", NO_INDEX, p, () -> p.line(0));
        due.isThrown("character", NO_INDEX, p, () -> p.character(0));
        due.isThrown("reason", NO_ELEMENT, p, () -> p.reason(0));
        due.isThrown("undo", BAD_STATE, p, p::undo);
        due.isThrown("restore", BAD_STATE, p, p::restore);
    }

    private static void promise2Household() {
        due.part("promise 2");
        Pump p = new Pump();
        int[][] wrong = {{0, 0, 0}, {10, 0, 0}, {1, -1, 0}, {1, 20, 0}, {1, 0, -1}, {1, 0, 10}};
        for (int[] w : wrong) {
            due.isRefused("household", p, 1, 0, () -> p.household(w[0], w[1], w[2]));
        }
        for (int wild : WILD) {
            due.isRefused("household", p, 1, 0, () -> p.household(wild, 0, 0));
            due.isRefused("household", p, 1, 0, () -> p.household(1, wild, 0));
            due.isRefused("household", p, 1, 0, () -> p.household(1, 0, wild));
        }
        due.is("the first one", 0, p.household(1, 0, 0));
        due.is("the second one", 1, p.household(9, 19, 9));
        int[] first = {1, 0, 0, 1, 1, 0, 0, 0, -1};
        int[] second = {9, 19, 9, 5, 5, 0, 0, 0, -1};
        for (int what = 0; what <= 8; what++) {
            due.is("number " + what, first[what], p.householdOf(0, what));
            due.is("number " + what, second[what], p.householdOf(1, what));
        }
        for (int k = 2; k < 8; k++) {
            due.is("one more", k, p.household(2, 5, 5));
        }
        due.isRefused("a ninth one", p, 2, 8, () -> p.household(2, 5, 5));
        due.isRefused("a ninth one that is wrong", p, 1, 0, () -> p.household(0, 5, 5));
        due.is("households", 8, p.account(1));
    }

    private static void promise3Join() {
        due.part("promise 3");
        Pump p = new Pump();
        due.isRefused("join", p, 3, 0, () -> p.join(0));
        p.household(1, 0, 0);
        p.household(4, 10, 0);
        due.isRefused("join", p, 3, -1, () -> p.join(-1));
        due.isRefused("join", p, 3, 2, () -> p.join(2));
        for (int wild : WILD) {
            due.isRefused("join", p, 3, wild, () -> p.join(wild));
        }
        due.is("join", 0, p.join(1));
        due.is("join", 1, p.join(0));
        due.isRefused("join again", p, 4, 0, () -> p.join(1));
        due.isRefused("join again", p, 4, 1, () -> p.join(0));
        p.draw(2);
        due.is("waiting", 1, p.account(2));
        due.isRefused("join without turns", p, 6, 1, () -> p.join(0));
        p.night(1);
        due.is("join on the next day", 0, p.join(0));
    }

    private static void promise3Quarrels() {
        due.part("promise 3, quarrels");
        // no quarrel at the distance 3, nor with tempers of 9 together
        due.is("far", 1, joinSecond(new int[][] {{9, 0, 9}, {9, 3, 9}}));
        due.is("calm", 1, joinSecond(new int[][] {{9, 0, 4}, {9, 2, 5}}));
        due.is("near and angry", -1, joinSecond(new int[][] {{9, 0, 5}, {9, 2, 5}}));
        due.is("near and angry", -1, joinSecond(new int[][] {{9, 2, 5}, {9, 0, 5}}));
        due.is("at one place", -1, joinSecond(new int[][] {{9, 7, 9}, {9, 7, 1}}));
        // a vote for the nearer one; of the same distance, and of as many votes, the one ahead
        due.is("the joining one has the vote", 0, joinSecond(new int[][] {{9, 0, 5}, {9, 2, 5}, {1, 5, 0}}));
        due.is("the one ahead has the vote", -1, joinSecond(new int[][] {{9, 2, 5}, {9, 0, 5}, {1, 5, 0}}));
        due.is("a tie of distance", -1, joinSecond(new int[][] {{9, 0, 5}, {9, 2, 5}, {1, 1, 0}}));
        due.is("a tie of votes", -1, joinSecond(new int[][] {{9, 3, 5}, {9, 5, 5}, {1, 9, 0}, {1, 0, 0}}));

        Pump p = Checks.pumpOf(new int[][] {{9, 10, 9}, {9, 12, 2}, {9, 14, 0}, {1, 19, 0}, {1, 18, 0}});
        due.is("join", 0, p.join(0));
        due.is("join and win", 0, p.join(1));
        due.is("the temper of who lost stays 9", 9, p.householdOf(0, 2));
        due.is("the temper of who won", 1, p.householdOf(1, 2));
        due.is("the turns lost", 1, p.householdOf(0, 6));
        due.is("no turns lost by the winner", 0, p.householdOf(1, 6));
        due.is("who lost left", -1, p.householdOf(0, 8));
        due.is("turns left", 4, p.householdOf(0, 4));
        due.is("the quarrels", 1, p.account(7));
        due.is("who lost joins again and loses", -1, p.join(0));
        due.is("turns left", 3, p.householdOf(0, 4));
        due.is("the temper of the winner", 0, p.householdOf(1, 2));
        due.is("now they are calm", 1, p.join(0));
        due.is("quarrels", 2, p.quarrels(1, 0));
        due.isText("minutes", "d0 h1x0,d0 h1x0", Checks.minutes(p));

        aheadOneByOne();
        winnerAtTemperZero();
        turnsLostAreNotBelowZero();
    }

    /** Makes the households; the first one joins, and then the second one: what that answers. */
    private static int joinSecond(int[][] households) {
        Pump p = Checks.pumpOf(households);
        due.is("the first one joins", 0, p.join(0));
        int answer = p.join(1);
        due.is("its place", answer, p.householdOf(1, 8));
        return answer;
    }

    private static void aheadOneByOne() {
        // 0 is a neighbour of 2, but not the one ahead of it
        int[][] calmBetween = {{5, 8, 7}, {5, 9, 0}, {5, 10, 9}, {1, 15, 0}, {1, 16, 0}, {1, 17, 0}};
        Pump p = Checks.pumpOf(calmBetween);
        due.is("join", 0, p.join(0));
        due.is("join", 1, p.join(1));
        due.is("no quarrel with 1", 2, p.join(2));
        p.undo();
        p.undo();
        due.is("0 is ahead and loses", 0, p.join(2));
        due.is("the temper of 2", 8, p.householdOf(2, 2));

        int[][] oneOfTwo = {{5, 8, 4}, {5, 9, 5}, {5, 10, 6}, {1, 15, 0}, {1, 16, 0}, {1, 17, 0}};
        Pump q = Checks.pumpOf(oneOfTwo);
        q.join(0);
        q.join(1);
        due.is("two quarrels are asked one by one", 1, q.join(2));
        due.is("6 and 5 quarrelled", 1, q.quarrels(2, 1));
        due.is("5 and 4 did not", 0, q.quarrels(2, 0));
        due.is("the first one", 0, q.at(0));
        due.is("the second one", 2, q.at(1));

        int[][] bothOfTwo = {{5, 8, 4}, {5, 9, 5}, {5, 10, 7}, {1, 15, 0}, {1, 16, 0}, {1, 17, 0}};
        Pump r = Checks.pumpOf(bothOfTwo);
        r.join(0);
        r.join(1);
        due.is("two quarrels are won", 0, r.join(2));
        due.is("the temper", 5, r.householdOf(2, 2));
        due.isText("minutes", "d0 h2x1,d0 h2x0", Checks.minutes(r));

        // 2 wins against 1 by the votes of those near to it, and loses against 0 by the same ones
        int[][] oneWonOneLost = {{5, 9, 5}, {5, 12, 4}, {5, 11, 9}, {1, 0, 0}, {1, 1, 0}, {1, 2, 0}};
        Pump t = Checks.pumpOf(oneWonOneLost);
        t.join(0);
        t.join(1);
        due.is("one won and one lost", -1, t.join(2));
        due.is("waiting", 1, t.account(2));
        due.is("won", 1, t.quarrels(2, 1));
        due.is("lost", 1, t.quarrels(0, 2));
        due.is("down and up", 9, t.householdOf(2, 2));
        due.isText("minutes", "d0 h2x1,d0 h0x2", Checks.minutes(t));
    }

    private static void winnerAtTemperZero() {
        Pump p = Checks.pumpOf(new int[][] {{9, 0, 9}, {9, 1, 1}});
        p.join(0);
        due.is("lost", -1, p.join(1));
        due.is("the winner's temper", 8, p.householdOf(0, 2));
        due.is("the loser's temper", 2, p.householdOf(1, 2));
    }

    private static void turnsLostAreNotBelowZero() {
        Pump p = Checks.pumpOf(new int[][] {{4, 0, 9}, {9, 1, 9}});
        due.is("join", 0, p.join(1));
        due.is("draw", 10, p.draw(1));
        due.is("lost", -1, p.join(0));
        due.is("lost once more", -1, p.join(0));
        due.isRefused("no turns left by quarrels alone", p, 6, 0, () -> p.join(0));
        p.night(1);
        due.is("no turns lost of the next day", 0, p.householdOf(0, 6));
        due.is("turns left", 2, p.householdOf(0, 4));
        due.is("quarrels stay", 2, p.quarrels(1, 0));
        // three turns drawn by the law 0; by the law 2 there is 1 then, and 1 - 3 is told as 0
        Pump r = Checks.pumpOf(new int[][] {{6, 0, 9}, {4, 9, 2}, {4, 9, 2}});
        r.join(0);
        r.draw(3);
        due.is("vote for the law 2", 2, r.vote());
        due.is("turns", 1, r.householdOf(0, 3));
        due.is("turns left", 0, r.householdOf(0, 4));
        due.isRefused("join", r, 6, 3, () -> r.join(0));
    }

    private static void promise4Leave() {
        due.part("promise 4");
        Pump p = Checks.pumpOf(new int[][] {{1, 0, 0}, {1, 5, 0}, {1, 10, 0}});
        p.join(0);
        p.join(1);
        due.isRefused("leave", p, 3, -1, () -> p.leave(-1));
        due.isRefused("leave", p, 3, 3, () -> p.leave(3));
        for (int wild : WILD) {
            due.isRefused("leave", p, 3, wild, () -> p.leave(wild));
        }
        due.isRefused("leave", p, 5, 0, () -> p.leave(2));
        p.join(2);
        due.is("leave", 1, p.leave(1));
        due.is("at 0", 0, p.at(0));
        due.is("at 1", 2, p.at(1));
        due.isThrown("at 2", NO_INDEX, p, () -> p.at(2));
        due.isRefused("leave again", p, 5, 0, () -> p.leave(1));
        due.is("leave the last place", 1, p.leave(2));
        due.is("leave the first place", 0, p.leave(0));
        due.is("nobody waits", 0, p.account(2));
        due.is("join again", 0, p.join(1));
    }

    private static void promise5Draw() {
        due.part("promise 5");
        Pump p = Checks.pumpOf(new int[][] {{3, 0, 0}, {9, 5, 0}, {1, 10, 0}});
        due.isRefused("nobody waits", p, 7, 0, () -> p.draw(1));
        p.join(0);
        p.join(1);
        p.join(2);
        for (int wrong : new int[] {0, -1, 51, Integer.MIN_VALUE, Integer.MAX_VALUE}) {
            due.isRefused("draw", p, 1, 0, () -> p.draw(wrong));
        }
        due.isRefused("draw", p, 7, 8, () -> p.draw(9));
        due.isRefused("draw", p, 7, 8, () -> p.draw(50));
        due.is("draw", 20, p.draw(2));
        due.is("at 0", 2, p.at(0));
        due.is("at 1", 0, p.at(1));
        due.is("at 2", 1, p.at(2));
        due.is("draw", 30, p.draw(3));
        due.is("only 1 waits", 1, p.account(2));
        due.is("it waits", 1, p.at(0));
        due.is("its draws", 2, p.householdOf(1, 5));
        due.is("its water", 20, p.householdOf(1, 7));
        due.is("draw all", 30, p.draw(3));
        due.is("nobody waits", 0, p.account(2));
        due.is("the draws", 8, p.account(6));
        due.is("the wear", 8, p.account(8));
        due.is("the water drawn", 80, p.account(4));
        due.is("the well", 420, p.account(3));
        due.isText("minutes", "d0 h0b10,d0 h1b10,d0 h2b10,d0 h0b10,d0 h1b10,d0 h1b10,d0 h1b10,d0 h1b10",
            Checks.minutes(p));
        noQuarrelBehindADraw();
        wearAndWater();
    }

    private static void noQuarrelBehindADraw() {
        Pump p = Checks.pumpOf(new int[][] {{9, 0, 9}, {9, 9, 9}, {9, 1, 9}});
        p.join(0);
        p.join(1);
        p.join(2);
        p.draw(2);
        due.is("2, 0 and 1 wait", 3, p.account(2));
        due.is("first", 2, p.at(0));
        due.is("no quarrels", 0, p.account(7));
        p.leave(1);
        p.draw(1);
        due.is("no quarrel of neighbours", 0, p.account(7));
        due.is("first", 0, p.at(0));
    }

    private static void wearAndWater() {
        int[][] eight = {{9, 0, 0}, {9, 3, 0}, {9, 6, 0}, {9, 9, 0}, {9, 12, 0}, {9, 15, 0}, {9, 18, 0}, {9, 19, 0}};
        Pump p = Checks.pumpOf(eight);
        int[] brings = {10, 10, 9, 9, 8, 8, 7, 7, 6, 6, 5, 5, 5, 5};
        for (int k = 0; k < brings.length; k++) {
            p.join(k % 8);
            due.is("five draws after " + 5 * k, 5 * brings[k], p.draw(5));
            if (k % 8 == 7) {
                p.night(1);
            }
        }
        due.is("the wear", 50, p.account(8));
        due.is("the draws", 70, p.account(6));
        due.is("drawn", 500, p.account(4));
        due.is("the well", 20, p.account(3));
        p.join(6);
        due.is("draw", 15, p.draw(3));
        due.isRefused("the well has 5", p, 8, 5, () -> p.draw(2));
        due.isRefused("too many as well", p, 7, 2, () -> p.draw(3));
        due.is("the last water", 5, p.draw(1));
        due.isRefused("the well is empty", p, 8, 0, () -> p.draw(1));
        due.is("the well", 0, p.account(3));
        Pump q = Checks.pumpOf(eight);
        q.rain(9);
        q.night(1);
        Checks.say(q, "j0;j1;j2;j3;j4;j5;j6;j7");
        due.is("possible", 40, q.possible());
        due.is("all draws at once", 340, q.draw(40));
        due.is("the draws of the last one", 5, q.householdOf(7, 5));
        due.is("minutes are the latest ones", 20, q.account(13));
        due.isText("the oldest one", "d1 h4b8", Checks.minute(q, 0));
        due.isText("the latest one", "d1 h7b7", Checks.minute(q, 19));
    }

    private static void promise6Vote() {
        due.part("promise 6");
        Pump none = new Pump();
        due.isRefused("vote without households", none, 3, 0, none::vote);
        Pump tie = Checks.pumpOf(new int[][] {{5, 0, 0}, {5, 9, 9}});
        due.is("5 members for 2, 5 for 0", 0, tie.vote());
        Pump p = Checks.pumpOf(new int[][] {{2, 0, 9}, {3, 5, 0}, {5, 10, 9}});
        due.is("2 members for 1, 3 for 2, 5 for 0", 0, p.vote());
        p.household(4, 15, 4);
        due.is("6 members for 1", 1, p.vote());
        due.is("the law", 1, p.account(10));
        due.is("turns", 3, p.householdOf(0, 3));
        due.isText("minutes", "d0 law0,d0 law1", Checks.minutes(p));
        due.is("the changes", 6, p.account(14));
        Pump middle = Checks.pumpOf(new int[][] {{1, 0, 0}, {3, 5, 9}, {2, 10, 9}});
        due.is("1 member for 2, 5 for 1", 1, middle.vote());
        Pump three = Checks.pumpOf(new int[][] {{7, 0, 9}, {4, 5, 9}, {4, 6, 9}, {2, 10, 0}});
        due.is("7 members for 0, 8 for 1, 2 for 2", 1, three.vote());
        int[][] eight = {{9, 0, 0}, {9, 3, 0}, {9, 6, 0}, {9, 9, 0}, {9, 12, 0}, {9, 15, 0}, {9, 18, 0}, {9, 19, 0}};
        Pump full = Checks.pumpOf(eight);
        Checks.say(full, "j7;j6;j5;j4;j3;j2;j1;j0");
        due.is("vote with all in the queue", 0, full.vote());
        due.is("all wait", 8, full.account(2));
        leavingBehindAVote();
    }

    private static void leavingBehindAVote() {
        // five are for the law 1; its 3 turns are too few for the households 0 and 2, which drew 3 times
        int[][] seven = {{9, 0, 9}, {4, 3, 9}, {9, 6, 9}, {4, 9, 9}, {4, 12, 9}, {4, 15, 9}, {4, 18, 9}};
        Pump p = Checks.pumpOf(seven);
        Checks.say(p, "j0;j2;d6;j3;j4");
        due.is("four wait", 4, p.account(2));
        due.is("they are for 0", 18, p.membersFor(0));
        due.is("they are for 1", 20, p.membersFor(1));
        due.is("vote", 1, p.vote());
        due.is("two wait", 2, p.account(2));
        due.is("the first one", 3, p.at(0));
        due.is("the second one", 4, p.at(1));
        due.is("no turns left", 0, p.householdOf(0, 4));
        due.is("possible", 6, p.possible());
        due.isRefused("join", p, 6, 3, () -> p.join(2));
        // a household with turns left stays
        Pump q = Checks.pumpOf(seven);
        Checks.say(q, "j0;j2;d5");
        due.is("vote", 1, q.vote());
        due.is("one waits", 1, q.account(2));
        due.is("the one that drew 2 times", 2, q.at(0));
    }

    private static void promise7Rain() {
        due.part("promise 7");
        Pump p = new Pump();
        due.is("rain", 2, p.rain(9));
        due.is("rain", 9, p.rain(0));
        due.is("rain", 0, p.rain(0));
        due.isRefused("rain", p, 1, 0, () -> p.rain(-1));
        due.isRefused("rain", p, 1, 0, () -> p.rain(10));
        for (int wild : WILD) {
            due.isRefused("rain", p, 1, 0, () -> p.rain(wild));
        }
        due.is("the rain", 0, p.account(11));
        p.rain(3);
        due.is("the rain", 3, p.account(11));
        due.is("night", 530, p.night(1));
        due.is("changes", 5, p.account(14));
    }

    private static void promise8Night() {
        due.part("promise 8");
        Pump p = Checks.pumpOf(new int[][] {{9, 0, 9}, {9, 9, 9}});
        for (int wrong : new int[] {0, -1, 51, Integer.MIN_VALUE, Integer.MAX_VALUE}) {
            due.isRefused("night", p, 1, 0, () -> p.night(wrong));
        }
        Checks.say(p, "j0;j1;d3");
        due.is("night", 490, p.night(1));
        due.is("the day", 1, p.account(0));
        due.is("nobody waits", 0, p.account(2));
        due.is("no draws of this day", 0, p.householdOf(0, 5));
        due.is("turns left", 5, p.householdOf(0, 4));
        due.is("its water stays", 20, p.householdOf(0, 7));
        due.is("the wear stays", 3, p.account(8));
        due.is("the draws stay", 3, p.account(6));
        due.is("nights", 990, p.night(25));
        due.is("the day", 26, p.account(0));
        due.is("nothing is spilled", 0, p.account(5));
        due.is("night", 999, p.night(1));
        due.is("spilled", 11, p.account(5));
        due.is("nights", 999, p.night(50));
        due.is("spilled", 1011, p.account(5));
        due.is("the day", 77, p.account(0));
        drought();
    }

    private static void drought() {
        Pump p = Checks.dryPump(new int[][] {{9, 0, 0}, {9, 9, 9}, {1, 18, 0}});
        due.is("no drought within the day", 0, p.account(12));
        p.rain(9);
        p.night(1);
        due.is("the rain ends it", 0, p.account(12));
        Pump q = Checks.dryPump(new int[][] {{9, 0, 0}, {9, 9, 9}, {1, 18, 0}});
        int level = q.account(3);
        due.is("the night", level, q.night(1));
        due.is("drought", 1, q.account(12));
        due.is("half of 5 turns", 3, q.householdOf(0, 3));
        due.is("half of 1 turn", 1, q.householdOf(2, 3));
        due.is("one with 4 turns", 3, q.household(8, 19, 0));
        due.is("half of 4 turns", 2, q.householdOf(3, 3));
        due.is("and they are left", 2, q.householdOf(3, 4));
        due.is("the law's turns stay", 5, q.turnsBy(0, 0));
        due.is("isFor stays", 0, q.isFor(0));
        q.rain(1);
        int nights = (100 - level + 9) / 10;
        due.is("nights", level + 10 * nights, q.night(nights));
        due.is("100 of water are no drought", 0, q.account(12));
        Pump r = Checks.dryPump(new int[][] {{9, 0, 0}, {9, 9, 2}, {9, 18, 2}});
        r.night(1);
        due.is("join", 0, r.join(0));
        due.is("possible in a drought", 3, r.possible());
        due.is("join", 1, r.join(1));
        due.is("draw", 5 * 5, r.draw(5));
        due.is("0 has drawn its turns", -1, r.householdOf(0, 8));
        due.isRefused("join", r, 6, 3, () -> r.join(0));
        due.is("drought", 0, r.droughtIn(0));
        due.is("vote with a drought", 0, r.vote());
        due.is("drought goes on within the day", 1, r.account(12));
    }

    private static void promise9Collect() {
        due.part("promise 9");
        Pump p = new Pump();
        for (int wrong : new int[] {0, -1, 101, Integer.MIN_VALUE, Integer.MAX_VALUE}) {
            due.isRefused("collect", p, 1, 0, () -> p.collect(wrong));
        }
        due.is("collect", 1, p.collect(1));
        due.is("collect", 101, p.collect(100));
        p.collect(100);
        p.collect(100);
        due.is("collect", 401, p.collect(100));
        due.isRefused("collect", p, 2, 500, () -> p.collect(100));
        due.is("collect", 500, p.collect(99));
        due.isRefused("collect", p, 2, 500, () -> p.collect(1));
        due.isRefused("collect", p, 1, 0, () -> p.collect(101));
        due.is("the coins", 500, p.account(9));
    }

    private static void promise10Leather() {
        due.part("promise 10");
        Pump p = Checks.pumpOf(new int[][] {{9, 0, 0}});
        due.isRefused("leather", p, 9, 20, p::leather);
        p.collect(19);
        due.isRefused("leather", p, 9, 1, p::leather);
        p.collect(2);
        Checks.say(p, "j0;d4");
        due.is("leather", 4, p.leather());
        due.is("the coins", 1, p.account(9));
        due.is("the wear", 0, p.account(8));
        due.isText("the minute", "d0 leather", Checks.minute(p, 4));
        p.collect(19);
        due.is("leather for the last coins", 0, p.leather());
        due.is("the coins", 0, p.account(9));
        due.isRefused("leather", p, 9, 20, p::leather);
    }
}
