/** The bounds that stand under Terms from Households to Nights: for each sentence a test of its own. */
final class BoundsOfTerms {
    private BoundsOfTerms() {
    }

    static void ask(Sentences s) {
        calls(s);
        divisions(s);
        households(s);
        turnsOfLaws(s);
        turnsInADrought(s);
        turnsLeft(s);
        well(s);
        leather(s);
        joining(s);
        votes(s);
        losing(s);
        oneAheadAfterTheOther(s);
        draws(s);
        laws(s);
        parliament(s);
        nights(s);
        droughts(s);
    }

    private static void calls(Sentences s) {
        s.of("What it is");
        s.holds("An object is used for at most 512 calls after it has been made; what later calls answer is free.",
            "rain(9) = 2; night(50) = 999\n" + "night(50) = 999\n".repeat(508)
                + "water() = 2291000; waterAgain() = 2291000",
            "rain(9) = 2; night(50) = 999\n" + "night(50) = 999\n".repeat(508) + "account(0) = 25450; "
            + "account(5) = 2290001",
            "collect(1) = 1; undo() = 0\n".repeat(256));
    }

    private static void divisions(Sentences s) {
        s.of("Terms");
        s.holds("Divisions are rounded down, unless something else is told.", """
            household(5, 0, 2) = 0; turnsBy(0, 2) = 4; turnsBy(0, 0) = 3
            household(9, 5, 5) = 1; turnsBy(1, 2) = 3
            household(9, 9, 8) = 2; turnsBy(2, 2) = 2
            join(1) = 0; join(2) = 1
            draw(9) = 90; wouldBring(1) = 10; draw(1) = 10; wouldBring(1) = 9
            """);
    }

    private static void households(Sentences s) {
        s.of("Households");
        s.holds("There are at most 8 households, numbered from 0", """
            account(1) = 0; householdOf(0, 0) = throws IndexOutOfBoundsException
            household(1, 0, 0) = 0; household(2, 3, 0) = 1; household(3, 6, 0) = 2; household(4, 9, 0) = 3
            household(5, 12, 0) = 4; household(6, 15, 0) = 5; household(7, 18, 0) = 6
            account(1) = 7; householdOf(7, 0) = throws IndexOutOfBoundsException
            household(8, 19, 0) = 7
            account(1) = 8; householdOf(0, 0) = 1; householdOf(7, 0) = 8
            household(9, 1, 0) = refused 2 8
            account(1) = 8; householdOf(8, 0) = throws IndexOutOfBoundsException
            householdOf(-1, 0) = throws IndexOutOfBoundsException
            undo() = 7; household(9, 1, 0) = 7; householdOf(7, 0) = 9; household(9, 1, 0) = refused 2 8
            """);
        s.holds("each with members from 1 to 9", """
            household(0, 5, 5) = refused 1 0; household(-1, 5, 5) = refused 1 0; household(MIN, 5, 5) = refused 1 0
            household(1, 5, 5) = 0; householdOf(0, 0) = 1
            household(9, 5, 5) = 1; householdOf(1, 0) = 9
            household(10, 5, 5) = refused 1 0; household(MAX, 5, 5) = refused 1 0; account(1) = 2
            """);
        s.holds("a place in the lane from 0 to 19", """
            household(5, -1, 5) = refused 1 0; household(5, MIN, 5) = refused 1 0
            household(5, 0, 5) = 0; householdOf(0, 1) = 0
            household(5, 19, 5) = 1; householdOf(1, 1) = 19
            household(5, 20, 5) = refused 1 0; household(5, MAX, 5) = refused 1 0; account(1) = 2
            """);
        s.holds("and a temper from 0 to 9", """
            household(5, 5, -1) = refused 1 0; household(5, 5, MIN) = refused 1 0
            household(5, 5, 0) = 0; householdOf(0, 2) = 0
            household(5, 5, 9) = 1; householdOf(1, 2) = 9
            household(5, 5, 10) = refused 1 0; household(5, 5, MAX) = refused 1 0; account(1) = 2
            """);
        s.holds("Two households are neighbours if their places differ by at most 2.", """
            household(1, 10, 0) = 0; neighbours(0) = 0
            household(1, 12, 0) = 1; neighbours(0) = 2; neighbours(1) = 1
            household(1, 13, 0) = 2; neighbours(0) = 2; neighbours(1) = 5; neighbours(2) = 2
            household(1, 8, 0) = 3; neighbours(0) = 10; neighbours(3) = 1
            household(1, 7, 0) = 4; neighbours(0) = 10; neighbours(4) = 8
            household(1, 10, 0) = 5; neighbours(0) = 42; neighbours(5) = 11
            household(1, 0, 0) = 6; household(1, 19, 0) = 7; neighbours(6) = 0; neighbours(7) = 0
            """);
    }

    private static void turnsOfLaws(Sentences s) {
        s.of("Laws");
        String forLaw1 = "household(9, 0, 0) = 0; household(4, 5, 9) = 1; household(4, 9, 3) = 2; "
            + "household(4, 13, 9) = 3\n";
        String forLaw2 = "household(9, 0, 9) = 0; household(6, 5, 0) = 1; household(6, 9, 2) = 2; "
            + "household(1, 13, 3) = 3\n";
        s.holds("A household has as many turns a day as the law gives it", forLaw2 + """
            householdOf(0, 3) = 5; householdOf(1, 3) = 3; vote() = 2; householdOf(0, 3) = 1; householdOf(1, 3) = 4
            join(0) = 0; draw(2) = refused 7 1; draw(1) = 10; join(0) = refused 6 1
            join(1) = 0; draw(5) = refused 7 4; draw(4) = 40; join(1) = refused 6 4
            """);
        s.holds("By the law 0, which holds at first, these are half of its members, rounded up;", """
            account(10) = 0
            household(1, 0, 9) = 0; household(2, 3, 9) = 1; household(3, 6, 9) = 2; household(4, 9, 9) = 3
            household(5, 12, 9) = 4; household(6, 15, 9) = 5; household(7, 18, 9) = 6; household(8, 19, 9) = 7
            householdOf(0, 3) = 1; householdOf(1, 3) = 1; householdOf(2, 3) = 2; householdOf(3, 3) = 2
            householdOf(4, 3) = 3; householdOf(5, 3) = 3; householdOf(6, 3) = 4; householdOf(7, 3) = 4
            turnsBy(0, 0) = 1; turnsBy(1, 0) = 1; turnsBy(2, 0) = 2; turnsBy(7, 0) = 4
            """, "household(9, 0, 9) = 0; householdOf(0, 3) = 5; turnsBy(0, 0) = 5");
        s.holds("by the law 1 they are 3;", forLaw1 + """
            householdOf(1, 3) = 2; vote() = 1
            householdOf(0, 3) = 3; householdOf(1, 3) = 3; householdOf(2, 3) = 3
            household(1, 16, 0) = 4; householdOf(4, 3) = 3; turnsBy(4, 1) = 3
            join(4) = 0; draw(4) = refused 7 3; draw(3) = 30; join(4) = refused 6 3
            """);
        s.holds("by the law 2 they are 4 less its temper divided by 3;", forLaw2 + """
            vote() = 2; household(9, 16, 5) = 4; household(9, 17, 6) = 5; household(9, 18, 8) = 6
            household(9, 19, 9) = 7
            householdOf(0, 3) = 1; householdOf(1, 3) = 4; householdOf(2, 3) = 4; householdOf(3, 3) = 3
            householdOf(4, 3) = 3; householdOf(5, 3) = 2; householdOf(6, 3) = 2; householdOf(7, 3) = 1
            """, """
            household(9, 0, 0) = 0; household(9, 0, 1) = 1; household(9, 0, 2) = 2; household(9, 0, 3) = 3
            household(9, 0, 4) = 4; turnsBy(0, 2) = 4; turnsBy(1, 2) = 4; turnsBy(2, 2) = 4; turnsBy(3, 2) = 3
            turnsBy(4, 2) = 3
            """, """
            household(9, 0, 5) = 0; household(9, 0, 6) = 1; household(9, 0, 7) = 2; household(9, 0, 8) = 3
            household(9, 0, 9) = 4; turnsBy(0, 2) = 3; turnsBy(1, 2) = 2; turnsBy(2, 2) = 2; turnsBy(3, 2) = 2
            turnsBy(4, 2) = 1
            """);
        s.holds("by the law 3 they are 1.", """
            household(9, 0, 0) = 0; household(1, 0, 9) = 1; household(1, 0, 0) = 2; household(9, 0, 9) = 3
            turnsBy(0, 3) = 1; turnsBy(1, 3) = 1; turnsBy(2, 3) = 1; turnsBy(3, 3) = 1
            """);
    }

    private static void turnsInADrought(Sentences s) {
        s.of("Laws");
        s.holds("or half of them, rounded up, in a drought.", """
            household(9, 0, 0) = 0; household(8, 3, 0) = 1; household(7, 6, 0) = 2; household(6, 9, 0) = 3
            household(5, 12, 0) = 4; household(4, 15, 0) = 5; household(3, 18, 0) = 6; household(2, 19, 0) = 7
            """ + Scenes.TEN_DRY_DAYS + """
            account(3) = 100; account(12) = 0
            householdOf(0, 3) = 5; householdOf(1, 3) = 4; householdOf(2, 3) = 4; householdOf(3, 3) = 3
            householdOf(4, 3) = 3; householdOf(5, 3) = 2; householdOf(6, 3) = 2; householdOf(7, 3) = 1
            join(0) = 0; draw(5) = 25; night(1) = 75; account(12) = 1
            householdOf(0, 3) = 3; householdOf(1, 3) = 2; householdOf(2, 3) = 2; householdOf(3, 3) = 2
            householdOf(4, 3) = 2; householdOf(5, 3) = 1; householdOf(6, 3) = 1; householdOf(7, 3) = 1
            join(0) = 0; draw(4) = refused 7 3; draw(3) = 15; join(0) = refused 6 3
            """, "household(9, 0, 0) = 0; household(1, 5, 0) = 1\n" + Scenes.TEN_DRY_DAYS + """
            householdOf(1, 3) = 1; join(0) = 0; draw(5) = 25; night(1) = 75; account(12) = 1
            householdOf(1, 3) = 1; join(1) = 0; draw(2) = refused 7 1; draw(1) = 5; join(1) = refused 6 1
            """, "household(9, 0, 0) = 0; household(4, 5, 9) = 1; household(4, 9, 9) = 2; household(4, 13, 9) = 3\n"
            + Scenes.DROUGHT + """
            vote() = 1; householdOf(0, 3) = 2; householdOf(1, 3) = 2
            join(1) = 0; draw(3) = refused 7 2; draw(2) = 10; join(1) = refused 6 2
            """, """
            household(9, 0, 0) = 0; household(6, 5, 0) = 1; household(6, 9, 2) = 2; household(1, 13, 3) = 3
            household(1, 15, 5) = 4; household(1, 16, 6) = 5; household(1, 17, 8) = 6; household(1, 18, 9) = 7
            """ + Scenes.DROUGHT + """
            vote() = 2; householdOf(0, 3) = 2; householdOf(1, 3) = 2; householdOf(2, 3) = 2; householdOf(3, 3) = 2
            householdOf(4, 3) = 2; householdOf(5, 3) = 1; householdOf(6, 3) = 1; householdOf(7, 3) = 1
            """);
    }

    private static void turnsLeft(Sentences s) {
        s.of("Laws");
        s.holds("The turns that it has left are its turns less its draws and less the turns that it lost on this day,"
            + " but not below 0.", """
            household(9, 0, 9) = 0; household(9, 1, 9) = 1; householdOf(0, 4) = 5
            join(0) = 0; draw(1) = 10; householdOf(0, 4) = 4; draw(1) = 10; householdOf(0, 4) = 3; leave(0) = 0
            join(1) = 0; join(0) = -1; householdOf(0, 4) = 2; join(0) = -1; householdOf(0, 4) = 1
            join(0) = -1; householdOf(0, 6) = 3; householdOf(0, 5) = 2; householdOf(0, 4) = 0
            join(0) = refused 6 2
            night(1); householdOf(0, 4) = 5; join(0) = 0
            """, """
            household(6, 0, 9) = 0; household(4, 9, 2) = 1; household(4, 13, 2) = 2
            join(0) = 0; draw(1) = 10; vote() = 2; householdOf(0, 3) = 1; householdOf(0, 4) = 0
            join(0) = refused 6 1
            """, """
            household(6, 0, 9) = 0; household(4, 9, 2) = 1; household(4, 13, 2) = 2
            join(0) = 0; draw(2) = 20; vote() = 2; householdOf(0, 3) = 1; householdOf(0, 4) = 0
            join(0) = refused 6 2
            """, """
            household(6, 0, 9) = 0; household(4, 9, 2) = 1; household(4, 13, 2) = 2
            join(0) = 0; draw(3) = 30; vote() = 2; householdOf(0, 3) = 1; householdOf(0, 4) = 0; possible() = 0
            join(0) = refused 6 3
            """);
    }

    private static void well(Sentences s) {
        s.of("The well");
        s.holds("The well holds water from 0 to 999, at first 500.",
            "account(3) = 500; household(9, 0, 0) = 0; household(9, 9, 0) = 1\n" + Scenes.DROUGHT
            + "join(0) = 0; draw(3) = 15; night(1)\n".repeat(4) + """
            account(3) = 15; join(0) = 0; join(1) = 1; draw(4) = refused 8 15; account(3) = 15
            draw(3) = 15; account(3) = 0; draw(1) = refused 8 0; account(3) = 0
            night(1) = 0; join(0) = 0; draw(1) = refused 8 0; account(3) = 0
            """, Scenes.EIGHT + """
            join(0) = 0; join(1) = 1; join(2) = 2; join(3) = 3; draw(19) = 181; account(3) = 319
            rain(9) = 2; night(7) = 949; rain(5) = 9; night(1) = 999; account(3) = 999; account(5) = 0
            rain(1) = 5; night(1) = 999; account(3) = 999; account(5) = 10
            """, """
            rain(9) = 2; night(5) = 950; rain(4) = 9; night(1) = 990; account(5) = 0
            rain(1) = 4; night(1) = 999; account(3) = 999; account(5) = 1
            rain(0) = 1; night(1) = 999; account(5) = 1
            """);
    }

    private static void leather(Sentences s) {
        s.of("The well");
        s.holds("The leather of the pump has a wear from 0 to 50, at first 0.",
            "household(9, 0, 0) = 0; rain(9); account(8) = 0\n" + "join(0); draw(5); night(1)\n".repeat(9) + """
            account(8) = 45; join(0) = 0; draw(4) = 24; account(8) = 49; draw(1) = 6; account(8) = 50; night(1)
            join(0) = 0; draw(1) = 5; account(8) = 50; draw(4) = 20; account(8) = 50
            collect(20) = 20; leather() = 50; account(8) = 0
            """);
        s.holds("A draw brings 10 less the wear divided by 10 of water, which is taken from the well,",
            "household(9, 0, 0) = 0; household(9, 9, 0) = 1; rain(9)\n" + tenDraws(10, 490) + tenDraws(9, 490)
            + tenDraws(8, 500) + tenDraws(7, 520) + tenDraws(6, 550) + tenDraws(5, 590) + tenDraws(5, 630)
            + "account(4) = 500; householdOf(0, 7) = 250; householdOf(1, 7) = 250");
        s.holds("and wears the leather by 1, up to 50.", """
            household(9, 0, 0) = 0; rain(9); join(0) = 0; account(8) = 0; draw(1); account(8) = 1; draw(1)
            account(8) = 2; night(1); account(8) = 2
            """, "household(9, 0, 0) = 0; household(9, 9, 0) = 1; rain(9)\n" + "join(0); join(1); draw(10); night(1)\n"
            .repeat(4) + """
            account(8) = 40; join(0) = 0; join(1) = 1; draw(9) = 54; account(8) = 49; draw(1) = 6; account(8) = 50
            night(1); join(0) = 0; draw(1) = 5; account(8) = 50
            """);
    }

    /** Ten draws in one day, one by one, and the water of the well in the morning behind them, with a rain of 9. */
    private static String tenDraws(int water, int morning) {
        return "join(0) = 0; join(1) = 1\n" + ("draw(1) = " + water + "\n").repeat(10)
            + "night(1) = " + morning + "\n";
    }

    private static void joining(Sentences s) {
        s.of("The queue");
        s.holds("A household that joins comes to the end of the queue.", Scenes.EIGHT + """
            queue() = ""; join(3) = 0; queue() = "3"; join(0) = 1; join(7) = 2; join(1) = 3; queue() = "3 0 7 1"
            join(6) = 4; join(2) = 5; join(5) = 6; join(4) = 7; queue() = "3 0 7 1 6 2 5 4"; account(2) = 8
            """);
        s.holds("If the household ahead of it is a neighbour, and both tempers together are 10 or more, they quarrel.",
            Scenes.meeting("9, 5, 5", "9, 7, 5", "", -1) + "account(7) = 1; quarrels(0, 1) = 1",
            Scenes.meeting("9, 7, 5", "9, 5, 5", "", -1) + "account(7) = 1",
            Scenes.meeting("9, 5, 5", "9, 6, 5", "", -1) + "account(7) = 1",
            Scenes.meeting("9, 5, 5", "9, 5, 5", "", -1) + "account(7) = 1",
            Scenes.meeting("9, 5, 9", "9, 8, 9", "", 1) + "account(7) = 0; quarrels(0, 1) = 0",
            Scenes.meeting("9, 8, 9", "9, 5, 9", "", 1) + "account(7) = 0",
            Scenes.meeting("9, 0, 9", "9, 19, 9", "", 1) + "account(7) = 0",
            Scenes.meeting("9, 5, 4", "9, 7, 5", "", 1) + "account(7) = 0",
            Scenes.meeting("9, 5, 9", "9, 5, 0", "", 1) + "account(7) = 0",
            Scenes.meeting("9, 5, 0", "9, 5, 9", "", 1) + "account(7) = 0",
            Scenes.meeting("9, 5, 9", "9, 5, 1", "", -1) + "account(7) = 1",
            Scenes.meeting("9, 5, 1", "9, 5, 9", "", -1) + "account(7) = 1",
            "household(9, 5, 9) = 0; join(0) = 0; account(7) = 0", """
            household(9, 5, 9) = 0; household(9, 12, 9) = 1; household(9, 6, 9) = 2
            join(0) = 0; join(1) = 1; join(2) = 2; account(7) = 0
            """);
    }

    private static void votes(Sentences s) {
        s.of("The queue");
        s.holds("Each other household votes for the one whose place is nearer to its own, of places at the same"
            + " distance for the one ahead.",
            Scenes.meeting("9, 5, 5", "9, 7, 5", "household(1, 7, 0)", 0) + "quarrels(1, 0) = 1",
            Scenes.meeting("9, 5, 5", "9, 7, 5", "household(1, 6, 0)", -1) + "quarrels(0, 1) = 1",
            Scenes.meeting("9, 5, 5", "9, 7, 5", "household(1, 5, 0)", -1) + "quarrels(0, 1) = 1",
            Scenes.meeting("9, 5, 5", "9, 7, 5", "household(1, 19, 0)", 0),
            Scenes.meeting("9, 5, 5", "9, 7, 5", "household(1, 0, 0)", -1),
            Scenes.meeting("9, 7, 5", "9, 5, 5", "household(1, 5, 0)", 0),
            Scenes.meeting("9, 7, 5", "9, 5, 5", "household(1, 6, 0)", -1),
            Scenes.meeting("9, 7, 5", "9, 5, 5", "household(1, 7, 0)", -1),
            Scenes.meeting("9, 7, 5", "9, 6, 5", "household(1, 6, 0)", 0),
            Scenes.meeting("9, 6, 5", "9, 6, 5", "household(1, 6, 0); household(1, 0, 0); household(1, 19, 0)", -1), """
            household(9, 0, 0) = 0; household(9, 10, 0) = 1; household(1, 5, 0) = 2
            wouldWin(0, 1) = 0; wouldWin(1, 0) = 1
            """, """
            household(9, 0, 0) = 0; household(9, 10, 0) = 1; household(1, 6, 0) = 2
            wouldWin(0, 1) = 1; wouldWin(1, 0) = 1
            """, """
            household(9, 0, 0) = 0; household(9, 10, 0) = 1; household(1, 4, 0) = 2
            wouldWin(0, 1) = 0; wouldWin(1, 0) = 0
            """);
        String forAhead = "household(1, 4, 0); ";
        String forJoining = "household(1, 8, 0); ";
        s.holds("Who has fewer votes loses, of as many votes the one who joins.",
            Scenes.meeting("9, 5, 5", "9, 7, 5", "", -1),
            Scenes.meeting("9, 5, 5", "9, 7, 5", forAhead + forJoining, -1),
            Scenes.meeting("9, 5, 5", "9, 7, 5", forAhead + forJoining + forJoining, 0),
            Scenes.meeting("9, 5, 5", "9, 7, 5", forAhead + forAhead + forJoining, -1),
            Scenes.meeting("9, 5, 5", "9, 7, 5", forAhead.repeat(3) + forJoining.repeat(3), -1),
            Scenes.meeting("9, 5, 5", "9, 7, 5", forAhead.repeat(2) + forJoining.repeat(4), 0),
            Scenes.meeting("9, 5, 5", "9, 7, 5", forAhead.repeat(2) + forJoining.repeat(3), 0),
            Scenes.meeting("9, 5, 5", "9, 7, 5", forAhead.repeat(3) + forJoining.repeat(2), -1),
            Scenes.meeting("9, 5, 5", "9, 7, 5", forJoining.repeat(6), 0),
            Scenes.meeting("9, 5, 5", "9, 7, 5", forAhead.repeat(6), -1));
    }

    private static void losing(Sentences s) {
        s.of("The queue");
        s.holds("The loser loses a turn of this day,",
            Scenes.meeting("9, 5, 9", "9, 7, 9", "", -1) + """
            householdOf(1, 6) = 1; householdOf(1, 4) = 4; householdOf(0, 6) = 0; householdOf(0, 4) = 5
            join(1) = -1; householdOf(1, 6) = 2; householdOf(1, 4) = 3; householdOf(0, 6) = 0
            night(1); householdOf(1, 6) = 0; householdOf(1, 4) = 5
            """, Scenes.meeting("9, 5, 9", "9, 7, 9", "household(1, 7, 0)", 0) + """
            householdOf(0, 6) = 1; householdOf(0, 4) = 4; householdOf(1, 6) = 0; householdOf(1, 4) = 5
            """, Scenes.meeting("1, 5, 9", "1, 7, 9", "", -1) + "householdOf(1, 4) = 0; join(1) = refused 6 0");
        s.holds("its temper becomes greater by 1, up to 9,",
            Scenes.meeting("9, 5, 5", "9, 7, 5", "", -1) + "householdOf(1, 2) = 6",
            Scenes.meeting("9, 5, 5", "9, 7, 8", "", -1) + "householdOf(1, 2) = 9; join(1) = -1; householdOf(1, 2) = 9",
            Scenes.meeting("9, 5, 9", "9, 7, 1", "", -1) + "householdOf(1, 2) = 2",
            Scenes.meeting("9, 5, 8", "9, 7, 5", "household(1, 7, 0)", 0) + "householdOf(0, 2) = 9",
            Scenes.meeting("9, 5, 9", "9, 7, 5", "household(1, 7, 0)", 0) + "householdOf(0, 2) = 9");
        // a winner of the temper 0 there can't be: the other one would need 10
        s.holds("and that of the other one less by 1, not below 0;",
            Scenes.meeting("9, 5, 5", "9, 7, 5", "", -1) + "householdOf(0, 2) = 4",
            Scenes.meeting("9, 5, 1", "9, 7, 9", "", -1) + """
            householdOf(0, 2) = 0; join(1) = 1; householdOf(0, 2) = 0; account(7) = 1
            """, Scenes.meeting("9, 5, 9", "9, 7, 1", "household(1, 7, 0)", 0) + """
            householdOf(1, 2) = 0; join(0) = 1; householdOf(1, 2) = 0; account(7) = 1
            """);
        s.holds("the loser leaves the queue.",
            Scenes.meeting("9, 5, 5", "9, 7, 5", "", -1) + """
            queue() = "0"; householdOf(1, 8) = -1; leave(1) = refused 5 0
            """, Scenes.meeting("9, 5, 5", "9, 7, 5", "household(1, 7, 0)", 0) + """
            queue() = "1"; householdOf(0, 8) = -1; leave(0) = refused 5 0
            """);
    }

    private static void oneAheadAfterTheOther(Sentences s) {
        s.of("The queue");
        s.holds("If the one ahead has lost, the one who joins looks at the one who is ahead then in the same way.", """
            household(9, 10, 9) = 0; household(1, 10, 0) = 1; household(9, 8, 6) = 2; household(9, 12, 5) = 3
            household(9, 8, 4) = 4; household(9, 12, 3) = 5; household(9, 8, 2) = 6; household(9, 12, 1) = 7
            join(2) = 0; join(3) = 1; join(4) = 2; join(5) = 3; join(6) = 4; join(7) = 5; account(7) = 0
            join(0) = 0; account(7) = 6; queue() = "0"; householdOf(0, 2) = 3; householdOf(0, 6) = 0
            minutes() = "d0 h0x7,d0 h0x6,d0 h0x5,d0 h0x4,d0 h0x3,d0 h0x2"
            """, """
            household(5, 9, 5) = 0; household(5, 12, 4) = 1; household(5, 11, 9) = 2
            household(1, 0, 0) = 3; household(1, 1, 0) = 4; household(1, 2, 0) = 5
            join(0) = 0; join(1) = 1; join(2) = -1; queue() = "0"; minutes() = "d0 h2x1,d0 h0x2"
            householdOf(2, 2) = 9; householdOf(2, 6) = 1; householdOf(1, 6) = 1
            """, Scenes.meeting("9, 5, 9", "9, 7, 9", "household(1, 7, 0)", 0) + "account(2) = 1; account(7) = 1");
    }

    private static void draws(Sentences s) {
        s.of("Draws");
        s.holds("The first household of the queue draws.", Scenes.EIGHT + """
            join(5) = 0; join(2) = 1; join(7) = 2; draw(1) = 10; householdOf(5, 5) = 1; householdOf(2, 5) = 0
            householdOf(7, 5) = 0; draw(1) = 10; householdOf(2, 5) = 1; leave(7) = 0; draw(1) = 10
            householdOf(5, 5) = 2
            """);
        s.holds("If it has turns left then, it comes to the end of the queue, without a quarrel, and otherwise it"
            + " leaves the queue.", """
            household(3, 0, 0) = 0; household(1, 9, 0) = 1; join(0) = 0; join(1) = 1
            draw(1) = 10; queue() = "1 0"; draw(1) = 10; queue() = "0"; householdOf(0, 4) = 1
            draw(1) = 10; queue() = ""; householdOf(0, 4) = 0; householdOf(0, 8) = -1
            """, """
            household(3, 0, 9) = 0; household(9, 1, 9) = 1; join(1) = 0; join(0) = -1; leave(1) = 0
            join(0) = 0; householdOf(0, 4) = 1; draw(1) = 10; queue() = ""; householdOf(0, 3) = 2
            """, """
            household(9, 0, 9) = 0; household(9, 9, 9) = 1; household(9, 1, 9) = 2
            join(0) = 0; join(1) = 1; join(2) = 2; leave(1) = 1; queue() = "0 2"
            draw(1) = 10; queue() = "2 0"; draw(1) = 10; queue() = "0 2"; account(7) = 0
            """);
    }

    private static void laws(Sentences s) {
        s.of("The parliament");
        s.holds("When the parliament votes, each household is for the law by which it has most turns, without a"
            + " drought, of several the lowest one.", """
            household(8, 0, 0) = 0; household(6, 0, 0) = 1; household(5, 0, 3) = 2; household(4, 0, 3) = 3
            household(4, 0, 2) = 4; household(7, 0, 2) = 5; household(5, 0, 9) = 6; household(1, 0, 9) = 7
            isFor(0) = 0; isFor(1) = 2; isFor(2) = 0; isFor(3) = 1
            isFor(4) = 2; isFor(5) = 0; isFor(6) = 0; isFor(7) = 1
            """, """
            household(6, 0, 2) = 0; household(6, 0, 3) = 1; household(4, 0, 5) = 2; household(4, 0, 6) = 3
            household(9, 0, 0) = 4; household(7, 0, 0) = 5; household(5, 0, 2) = 6; household(1, 0, 3) = 7
            isFor(0) = 2; isFor(1) = 0; isFor(2) = 1; isFor(3) = 1
            isFor(4) = 0; isFor(5) = 0; isFor(6) = 2; isFor(7) = 1
            """, "household(9, 0, 9) = 0; household(5, 5, 0) = 1; household(5, 9, 0) = 2\n" + Scenes.DROUGHT + """
            account(12) = 1; isFor(1) = 2; membersFor(2) = 10; membersFor(0) = 9; vote() = 2
            """);
    }

    private static void parliament(Sentences s) {
        s.of("The parliament");
        s.holds("The law for which households with most members together are is the law then, of several the lowest"
            + " one.",
            "household(5, 0, 9) = 0; household(3, 5, 9) = 1; household(2, 9, 9) = 2; vote() = 0; account(10) = 0",
            "household(5, 0, 9) = 0; household(3, 5, 9) = 1; household(3, 9, 9) = 2; vote() = 1; account(10) = 1",
            "household(7, 0, 9) = 0; household(6, 5, 0) = 1; household(1, 9, 0) = 2; vote() = 0",
            "household(7, 0, 9) = 0; household(6, 5, 0) = 1; household(2, 9, 0) = 2; vote() = 2; account(10) = 2",
            "household(4, 0, 9) = 0; household(4, 5, 0) = 1; vote() = 1",
            "household(4, 0, 0) = 0; household(4, 5, 9) = 1; vote() = 1",
            "household(4, 0, 9) = 0; household(5, 5, 0) = 1; vote() = 2",
            "household(9, 0, 0) = 0; household(4, 5, 9) = 1; household(4, 9, 9) = 2; vote() = 0",
            "household(5, 0, 9) = 0; household(4, 5, 0) = 1; household(1, 6, 0) = 2; household(4, 9, 9) = 3; "
                + "household(1, 12, 9) = 4; vote() = 0",
            "household(1, 0, 9) = 0; vote() = 1; household(2, 5, 0) = 1; vote() = 2; household(9, 9, 9) = 2; "
            + "vote() = 0");
        String fiveForLaw1 = """
            household(9, 0, 9) = 0; household(4, 3, 9) = 1; household(9, 6, 9) = 2; household(4, 9, 9) = 3
            household(4, 12, 9) = 4; household(4, 15, 9) = 5; household(4, 18, 9) = 6
            """;
        s.holds("Households that have no turns left by it leave the queue.", fiveForLaw1 + """
            join(0) = 0; join(2) = 1; draw(6) = 60; join(3) = 2; join(4) = 3; queue() = "0 2 3 4"
            vote() = 1; queue() = "3 4"; householdOf(0, 4) = 0; join(0) = refused 6 3
            """, fiveForLaw1 + """
            join(0) = 0; join(2) = 1; draw(5) = 50; queue() = "2 0"
            vote() = 1; queue() = "2"; householdOf(2, 4) = 1; householdOf(0, 4) = 0
            """, fiveForLaw1 + """
            join(0) = 0; join(2) = 1; draw(4) = 40; vote() = 1; queue() = "0 2"; possible() = 2
            """, Scenes.EIGHT + Scenes.ALL_JOIN + "vote() = 0; account(2) = 8",
            Scenes.EIGHT + "vote() = 0; account(2) = 0");
    }

    private static void nights(Sentences s) {
        s.of("Nights");
        s.holds("There is a rain from 0 to 9, at first 2.", """
            account(11) = 2; rain(0) = 2; account(11) = 0; rain(-1) = refused 1 0; rain(9) = 0; account(11) = 9
            rain(10) = refused 1 0; rain(MIN) = refused 1 0; rain(MAX) = refused 1 0; account(11) = 9; rain(9) = 9
            """, "night(1) = 520");
        s.holds("When a night goes by, the queue becomes empty, and no household has draws and lost turns of this day"
            + " any more;", Scenes.EIGHT + Scenes.ALL_JOIN + """
            draw(9) = 90; householdOf(0, 5) = 2; householdOf(7, 5) = 1; account(2) = 8; night(1)
            queue() = ""; householdOf(0, 5) = 0; householdOf(7, 5) = 0; householdOf(0, 4) = 5; householdOf(0, 8) = -1
            householdOf(0, 7) = 20; account(6) = 9; night(1); queue() = ""
            """, Scenes.meeting("9, 5, 9", "9, 7, 9", "", -1) + """
            householdOf(1, 6) = 1; night(1); householdOf(1, 6) = 0; householdOf(1, 4) = 5
            quarrels(0, 1) = 1; account(7) = 1; householdOf(1, 2) = 9; householdOf(0, 2) = 8
            """);
        s.holds("the well gets 10 of water for each 1 of rain, and what would be more than 999 is spilled.", """
            rain(0) = 2; night(1) = 500; rain(1) = 0; night(1) = 510; rain(9) = 1; night(1) = 600; night(4) = 960
            rain(3) = 9; night(1) = 990; account(5) = 0; rain(1) = 3; night(1) = 999; account(5) = 1
            night(1) = 999; account(5) = 11; rain(9) = 1; night(2) = 999; account(5) = 191
            rain(0) = 9; night(50) = 999; account(5) = 191
            """, Scenes.EIGHT + """
            join(0) = 0; join(1) = 1; join(2) = 2; join(3) = 3; draw(19) = 181
            rain(9) = 2; night(7) = 949; rain(5) = 9; night(1) = 999; account(5) = 0
            """);
        s.holds("Then the next day begins; days are numbered from 0.", """
            household(1, 0, 9) = 0; account(0) = 0; vote() = 1; night(1); account(0) = 1; vote() = 1
            night(50); account(0) = 51; vote() = 1; minutes() = "d0 law1,d1 law1,d51 law1"
            """);
    }

    private static void droughts(Sentences s) {
        s.of("Nights");
        // on the day 0 at most 40 draws of 10 are possible: the well can't have less than 100 on it
        s.holds("There is a drought on a day if the well has less than 100 as it begins; there is none on the day 0.",
            Scenes.WELL_OF_119 + """
            join(0) = 0; draw(1) = 10; draw(1) = 10; account(3) = 99; account(12) = 0; householdOf(0, 3) = 5
            night(1) = 99; account(12) = 1; householdOf(0, 3) = 3; rain(1) = 0; account(12) = 1
            night(1) = 109; account(12) = 0; householdOf(0, 3) = 5
            """, Scenes.WELL_OF_100 + """
            account(3) = 100; account(0) = 0; account(12) = 0; night(1) = 100; account(12) = 0; householdOf(0, 3) = 5
            join(0) = 0; draw(1) = 9; account(3) = 91; account(12) = 0; householdOf(0, 3) = 5
            night(1) = 91; account(12) = 1
            """, "household(9, 0, 0) = 0\n" + Scenes.DROUGHT + """
            account(12) = 1; rain(1) = 0; night(2) = 95; account(12) = 1; night(1) = 105; account(12) = 0
            undo() = 7; account(12) = 1; night(3) = 125; account(12) = 0; rain(0) = 1; night(50) = 125; account(12) = 0
            """, "account(12) = 0; rain(0) = 2; night(50) = 500; account(12) = 0");
    }
}
