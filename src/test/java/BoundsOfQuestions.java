/** The bounds of the promises 11 to 25 and 32 to 34: for each sentence a test of its own. */
final class BoundsOfQuestions {
    private static final String NO_HOUSEHOLD = "Throws `IndexOutOfBoundsException` if there is no such household";
    private static final String[] OTHER_HOUSEHOLDS = {"-1", "2", "8", "32", "MIN", "MAX"};

    private BoundsOfQuestions() {
    }

    static void ask(Sentences s) {
        householdOf(s);
        at(s);
        neighbours(s);
        quarrels(s);
        wouldWin(s);
        turnsBy(s);
        isFor(s);
        membersFor(s);
        turnIn(s);
        possible(s);
        wouldBring(s);
        wellIn(s);
        wellInRanges(s);
        droughtIn(s);
        droughtInThrows(s);
        water(s);
        meanTemper(s);
        share(s);
        account(s);
    }

    /** With no household and with two: no other number may be taken, in the place of "#". */
    private static String[] withoutHousehold(String call) {
        StringBuilder none = new StringBuilder(call.replace("#", "0")).append(" = throws IndexOutOfBoundsException\n");
        StringBuilder two = new StringBuilder("household(9, 0, 0) = 0; household(9, 9, 0) = 1; join(0) = 0; "
            + "draw(1) = 10\n");
        for (String other : OTHER_HOUSEHOLDS) {
            none.append(call.replace("#", other)).append(" = throws IndexOutOfBoundsException\n");
            two.append(call.replace("#", other)).append(" = throws IndexOutOfBoundsException\n");
        }
        two.append("undo(); undo(); undo()\n").append(call.replace("#", "1"))
            .append(" = throws IndexOutOfBoundsException\n");
        String eight = Scenes.EIGHT + call.replace("#", "8") + " = throws IndexOutOfBoundsException\n";
        return new String[] {none.toString(), two.toString(), eight};
    }

    private static String[] with(String[] runs, String... more) {
        String[] all = new String[runs.length + more.length];
        System.arraycopy(runs, 0, all, 0, runs.length);
        System.arraycopy(more, 0, all, runs.length, more.length);
        return all;
    }

    private static void householdOf(Sentences s) {
        s.of("Promise 11");
        s.holds("`what`: 0 for its members, 1 for its place, 2 for its temper, 3 for its turns a day, 4 for those"
            + " that it has left, 5 for its draws on this day, 6 for the turns that it lost on this day, 7 for the"
            + " water that it drew so far, 8 for its place in the queue, or -1", """
            household(8, 5, 9) = 0; household(9, 6, 8) = 1; household(7, 0, 0) = 2; household(9, 3, 0) = 3
            join(0) = 0; draw(1) = 10; night(1); join(0) = 0; draw(1) = 10; leave(0) = 0
            join(1) = 0; join(0) = 0; join(2) = 1; draw(1) = 10
            householdOf(0, 0) = 8; householdOf(0, 1) = 5; householdOf(0, 2) = 8; householdOf(0, 3) = 4
            householdOf(0, 4) = 2; householdOf(0, 5) = 2; householdOf(0, 6) = 0; householdOf(0, 7) = 30
            householdOf(0, 8) = 1
            householdOf(1, 0) = 9; householdOf(1, 1) = 6; householdOf(1, 2) = 9; householdOf(1, 3) = 5
            householdOf(1, 4) = 4; householdOf(1, 5) = 0; householdOf(1, 6) = 1; householdOf(1, 7) = 0
            householdOf(1, 8) = -1; householdOf(2, 8) = 0; householdOf(3, 8) = -1
            """, Scenes.EIGHT + Scenes.ALL_JOIN + "householdOf(0, 8) = 0; householdOf(7, 8) = 7");
        s.holds(NO_HOUSEHOLD, withoutHousehold("householdOf(#, 0)"));
        s.holds("Throws `IllegalArgumentException` if what is not from 0 to 8", """
            household(9, 0, 0) = 0; householdOf(0, -1) = throws IllegalArgumentException; householdOf(0, 0) = 9
            householdOf(0, 8) = -1; householdOf(0, 9) = throws IllegalArgumentException
            householdOf(0, MIN) = throws IllegalArgumentException; householdOf(0, MAX) = throws IllegalArgumentException
            """);
    }

    private static void at(Sentences s) {
        s.of("Promise 12");
        s.holds("`place`: the place, from 0", Scenes.EIGHT + Scenes.ALL_JOIN + """
            at(0) = 0; at(1) = 1; at(6) = 6; at(7) = 7; draw(1); at(0) = 1; at(7) = 0
            """, "household(9, 0, 0) = 0; household(9, 9, 0) = 1; join(1) = 0; at(0) = 1");
        s.holds("Throws `IndexOutOfBoundsException` if there is no such place", """
            at(0) = throws IndexOutOfBoundsException; household(1, 0, 0) = 0; at(0) = throws IndexOutOfBoundsException
            join(0) = 0; at(0) = 0; at(1) = throws IndexOutOfBoundsException; at(-1) = throws IndexOutOfBoundsException
            at(MIN) = throws IndexOutOfBoundsException; at(MAX) = throws IndexOutOfBoundsException; draw(1) = 10
            at(0) = throws IndexOutOfBoundsException
            """, Scenes.EIGHT + Scenes.ALL_JOIN + """
            at(7) = 7; at(8) = throws IndexOutOfBoundsException; leave(0) = 0; at(6) = 7
            at(7) = throws IndexOutOfBoundsException; night(1); at(0) = throws IndexOutOfBoundsException
            """);
    }

    private static void neighbours(Sentences s) {
        s.of("Promise 13");
        s.holds("Returns the set, bit k for the household k.", """
            household(1, 5, 0) = 0; neighbours(0) = 0; household(1, 19, 0) = 1; household(1, 7, 0) = 2
            household(1, 3, 0) = 3; household(1, 8, 0) = 4; household(1, 2, 0) = 5; household(1, 5, 0) = 6
            household(1, 6, 0) = 7; neighbours(0) = 204; neighbours(1) = 0; neighbours(5) = 8; neighbours(7) = 85
            """, "household(1, 9, 0)\n".repeat(8) + "neighbours(0) = 254; neighbours(3) = 247; neighbours(7) = 127");
        s.holds(NO_HOUSEHOLD, withoutHousehold("neighbours(#)"));
    }

    private static void quarrels(Sentences s) {
        s.of("Promise 14");
        s.holds("Returns how often one household won a quarrel with another one.",
            Scenes.meeting("9, 5, 9", "9, 7, 9", "", -1) + """
            quarrels(0, 1) = 1; quarrels(1, 0) = 0; quarrels(0, 0) = 0; quarrels(1, 1) = 0
            join(1) = -1; join(1) = -1; join(1) = -1; join(1) = -1; join(1) = refused 6 0; quarrels(0, 1) = 5
            night(1); join(1) = 0; join(0) = -1; quarrels(1, 0) = 1; quarrels(0, 1) = 5; account(7) = 6
            undo(); quarrels(1, 0) = 0; quarrels(0, 1) = 5
            """, Scenes.meeting("9, 5, 4", "9, 7, 5", "", 1) + "quarrels(0, 1) = 0; quarrels(1, 0) = 0",
            Scenes.EIGHT.replace("18, 0", "18, 9").replace("19, 0", "19, 9") + """
            join(6) = 0; join(7) = -1; quarrels(6, 7) = 1; quarrels(7, 6) = 0
            """);
        s.holds(NO_HOUSEHOLD, with(withoutHousehold("quarrels(#, 0)"), withoutHousehold("quarrels(0, #)")));
    }

    private static void wouldWin(Sentences s) {
        s.of("Promise 15");
        s.holds("Returns who would win a quarrel, whether these are neighbours or not.", """
            household(1, 0, 0) = 0; household(1, 19, 0) = 1; wouldWin(0, 1) = 0; wouldWin(1, 0) = 1
            household(1, 9, 0) = 2; wouldWin(0, 1) = 0; wouldWin(1, 0) = 0
            household(1, 10, 0) = 3; wouldWin(0, 1) = 0; wouldWin(1, 0) = 1
            household(1, 11, 0) = 4; wouldWin(0, 1) = 1; wouldWin(1, 0) = 1; account(7) = 0
            """, """
            household(1, 5, 9) = 0; household(1, 7, 9) = 1; household(1, 6, 0) = 2; wouldWin(0, 1) = 0
            wouldWin(1, 0) = 1
            """, Scenes.EIGHT + "wouldWin(0, 7) = 0; wouldWin(7, 0) = 7; wouldWin(2, 3) = 3; wouldWin(5, 4) = 4");
        s.holds(NO_HOUSEHOLD, with(withoutHousehold("wouldWin(#, 0)"), withoutHousehold("wouldWin(0, #)")));
        s.holds("Throws `IllegalArgumentException` if both are the same", """
            household(1, 0, 0) = 0; wouldWin(0, 0) = throws IllegalArgumentException; household(1, 0, 0) = 1
            wouldWin(0, 1) = 0; wouldWin(1, 1) = throws IllegalArgumentException
            """);
    }

    private static void turnsBy(Sentences s) {
        s.of("Promise 16");
        s.holds("Returns the turns a day of a household by a law, without a drought.",
            "household(9, 0, 0) = 0; household(4, 5, 3) = 1\n" + Scenes.DROUGHT + """
            turnsBy(0, 0) = 5; turnsBy(0, 1) = 3; turnsBy(0, 2) = 4; turnsBy(0, 3) = 1
            turnsBy(1, 0) = 2; turnsBy(1, 1) = 3; turnsBy(1, 2) = 3; turnsBy(1, 3) = 1; householdOf(0, 3) = 3
            join(0) = 0; draw(2) = 10; turnsBy(0, 0) = 5
            """);
        s.holds(NO_HOUSEHOLD, withoutHousehold("turnsBy(#, 0)"));
        s.holds("Throws `IllegalArgumentException` if the law is not from 0 to 3", """
            household(9, 0, 0) = 0; turnsBy(0, -1) = throws IllegalArgumentException; turnsBy(0, 0) = 5
            turnsBy(0, 3) = 1; turnsBy(0, 4) = throws IllegalArgumentException
            turnsBy(0, MIN) = throws IllegalArgumentException; turnsBy(0, MAX) = throws IllegalArgumentException
            """);
    }

    private static void isFor(Sentences s) {
        s.of("Promise 17");
        s.holds("Returns the law for which a household is.", """
            household(7, 0, 0) = 0; household(6, 0, 2) = 1; household(6, 0, 3) = 2; household(5, 0, 3) = 3
            household(4, 0, 3) = 4; household(4, 0, 6) = 5; household(4, 0, 2) = 6
            isFor(0) = 0; isFor(1) = 2; isFor(2) = 0; isFor(3) = 0; isFor(4) = 1; isFor(5) = 1; isFor(6) = 2
            """, Scenes.meeting("6, 5, 9", "6, 7, 2", "", -1) + "isFor(0) = 0; isFor(1) = 0",
            Scenes.meeting("6, 5, 9", "6, 7, 3", "household(1, 7, 0)", 0) + "isFor(1) = 2");
        s.holds(NO_HOUSEHOLD, withoutHousehold("isFor(#)"));
    }

    private static void membersFor(Sentences s) {
        s.of("Promise 18");
        s.holds("Returns the members of the households that are for a law, together.", """
            membersFor(0) = 0; membersFor(1) = 0; membersFor(2) = 0; membersFor(3) = 0
            household(9, 0, 0) = 0; membersFor(0) = 9; household(5, 0, 3) = 1; membersFor(0) = 14
            household(4, 0, 3) = 2; membersFor(1) = 4; household(1, 0, 9) = 3; membersFor(1) = 5
            household(6, 0, 2) = 4; membersFor(2) = 6; membersFor(0) = 14; membersFor(3) = 0
            """, "household(9, 0, 0)\n".repeat(8) + "membersFor(0) = 72; membersFor(1) = 0");
        s.holds("Throws `IllegalArgumentException` if the law is not from 0 to 3", """
            membersFor(-1) = throws IllegalArgumentException; membersFor(0) = 0; membersFor(3) = 0
            membersFor(4) = throws IllegalArgumentException; membersFor(MIN) = throws IllegalArgumentException
            membersFor(MAX) = throws IllegalArgumentException
            """);
    }

    private static void turnIn(Sentences s) {
        s.of("Promise 19");
        s.holds("Returns after how many draws a household that waits has drawn for the next time.",
            Scenes.EIGHT + Scenes.ALL_JOIN + """
            turnIn(0) = 1; turnIn(1) = 2; turnIn(7) = 8; draw(1); turnIn(0) = 8; turnIn(1) = 1; householdOf(7, 5) = 0
            draw(6); householdOf(7, 5) = 0; turnIn(7) = 1; draw(1); householdOf(7, 5) = 1; turnIn(7) = 8
            """, "household(9, 0, 0) = 0; join(0) = 0; turnIn(0) = 1; draw(1); turnIn(0) = 1");
        s.holds(NO_HOUSEHOLD, withoutHousehold("turnIn(#)"));
        s.holds("Throws `NoSuchElementException` if it does not wait", """
            household(1, 0, 0) = 0; turnIn(0) = throws NoSuchElementException; join(0) = 0; turnIn(0) = 1; draw(1) = 10
            turnIn(0) = throws NoSuchElementException; night(1); join(0) = 0; turnIn(0) = 1; leave(0) = 0
            turnIn(0) = throws NoSuchElementException
            """, Scenes.meeting("9, 5, 9", "9, 7, 9", "", -1) + "turnIn(1) = throws NoSuchElementException; "
            + "turnIn(0) = 1");
    }

    private static void possible(Sentences s) {
        s.of("Promise 20");
        s.holds("Returns how many draws there would be if all households in the queue drew until they leave it,"
            + " whatever water there is.",
            "possible() = 0\n" + Scenes.EIGHT + "possible() = 0\n" + Scenes.ALL_JOIN + """
            possible() = 40; draw(39) = 333; possible() = 1; draw(1) = 7; possible() = 0; queue() = ""
            """, "household(9, 0, 0) = 0; household(9, 9, 0) = 1\n" + Scenes.DROUGHT
            + "join(0) = 0; draw(3) = 15; night(1)\n".repeat(5) + """
            account(3) = 0; possible() = 0; join(0) = 0; possible() = 3; join(1) = 1; possible() = 6
            draw(1) = refused 8 0
            """, Scenes.meeting("9, 5, 9", "9, 7, 9", "", -1) + """
            possible() = 5; leave(0) = 0; possible() = 0; join(1) = 0; possible() = 4
            """);
    }

    private static void wouldBring(Sentences s) {
        s.of("Promise 21");
        s.holds("Returns the water that draws would bring, whatever water there is.", """
            wouldBring(1) = 10; wouldBring(10) = 100; wouldBring(11) = 109; wouldBring(20) = 190; wouldBring(21) = 198
            wouldBring(30) = 270; wouldBring(31) = 277; wouldBring(40) = 340; wouldBring(41) = 346; wouldBring(50) = 400
            wouldBring(51) = 405; account(8) = 0; account(3) = 500
            """, "household(9, 0, 0) = 0; join(0) = 0; draw(5) = 50; wouldBring(5) = 50; wouldBring(6) = 59",
            "household(9, 0, 0) = 0; household(9, 9, 0) = 1\n" + Scenes.DROUGHT
            + "join(0) = 0; draw(3) = 15; night(1)\n".repeat(5) + "account(3) = 0; wouldBring(1) = 5; "
            + "wouldBring(60) = 300");
        s.holds("`draws`: how many, 0 to 60", """
            wouldBring(0) = 0; wouldBring(1) = 10; wouldBring(59) = 445; wouldBring(60) = 450
            wouldBring(-1) = throws IllegalArgumentException; wouldBring(61) = throws IllegalArgumentException
            """);
        s.holds("Throws `IllegalArgumentException` if the number is out of range", """
            wouldBring(-1) = throws IllegalArgumentException; wouldBring(0) = 0; wouldBring(60) = 450
            wouldBring(61) = throws IllegalArgumentException; wouldBring(MIN) = throws IllegalArgumentException
            wouldBring(MAX) = throws IllegalArgumentException
            """);
    }

    private static void wellIn(Sentences s) {
        s.of("Promise 22");
        s.holds("Returns the water of the well after nights, if nothing happened but that on each day so much was"
            + " drawn, or all that there is, ahead of the night.", """
            wellIn(1, 0) = 520; wellIn(1, 20) = 500; wellIn(1, 499) = 21; wellIn(1, 500) = 20; wellIn(1, 501) = 20
            wellIn(1, 999) = 20; wellIn(2, 260) = 20; wellIn(2, 259) = 22; wellIn(2, 261) = 20; wellIn(3, 260) = 20
            wellIn(24, 0) = 980; wellIn(25, 0) = 999; wellIn(100, 0) = 999; account(3) = 500; account(0) = 0
            """, """
            rain(0); wellIn(1, 0) = 500; wellIn(1, 499) = 1; wellIn(1, 500) = 0; wellIn(1, 501) = 0; wellIn(100, 5) = 0
            wellIn(99, 5) = 5; wellIn(100, 0) = 500
            """, """
            rain(9); night(6) = 999; account(5) = 41; wellIn(1, 90) = 999; wellIn(1, 89) = 999; wellIn(1, 91) = 998
            wellIn(2, 91) = 997; wellIn(2, 0) = 999; wellIn(1, 999) = 90; wellIn(1, 998) = 91; account(5) = 41
            """);
    }

    private static void wellInRanges(Sentences s) {
        s.of("Promise 22");
        s.holds("`nights`: how many, 0 to 100", """
            wellIn(0, 0) = 500; wellIn(0, 999) = 500; wellIn(100, 999) = 20; wellIn(100, 24) = 100
            wellIn(-1, 0) = throws IllegalArgumentException; wellIn(101, 0) = throws IllegalArgumentException
            """);
        s.holds("`drawn`: the water that is drawn on each day, 0 to 999", """
            wellIn(1, 0) = 520; wellIn(1, 999) = 20; wellIn(1, -1) = throws IllegalArgumentException
            wellIn(1, 1000) = throws IllegalArgumentException
            """, "rain(9); night(6) = 999; wellIn(1, 999) = 90; wellIn(1, 1000) = throws IllegalArgumentException");
        s.holds("Throws `IllegalArgumentException` if a number is out of range", """
            wellIn(-1, 0) = throws IllegalArgumentException; wellIn(0, -1) = throws IllegalArgumentException
            wellIn(101, 0) = throws IllegalArgumentException; wellIn(0, 1000) = throws IllegalArgumentException
            wellIn(MIN, 0) = throws IllegalArgumentException; wellIn(MAX, 0) = throws IllegalArgumentException
            wellIn(0, MIN) = throws IllegalArgumentException; wellIn(0, MAX) = throws IllegalArgumentException
            wellIn(100, 999) = 20; wellIn(0, 0) = 500
            """);
    }

    private static void droughtIn(Sentences s) {
        s.of("Promise 23");
        s.holds("Returns after how many nights there would be a drought in the same case.", """
            droughtIn(420) = 2; droughtIn(421) = 1; droughtIn(25) = 81; droughtIn(500) = 1; droughtIn(501) = 1
            droughtIn(999) = 1; account(0) = 0; account(12) = 0
            """, "rain(0); droughtIn(400) = 2; droughtIn(401) = 1; droughtIn(200) = 3; droughtIn(201) = 2",
            "rain(9); droughtIn(500) = 1; droughtIn(490) = 2; droughtIn(491) = 1; night(6) = 999; droughtIn(989) = 2; "
            + "droughtIn(990) = 1");
        s.holds("`drawn`: the water that is drawn on each day, 0 to 999", """
            droughtIn(0) = throws NoSuchElementException; droughtIn(999) = 1
            droughtIn(-1) = throws IllegalArgumentException
            droughtIn(1000) = throws IllegalArgumentException
            """);
        s.holds("Returns the number of nights, 0 if there is one.", Scenes.WELL_OF_119 + """
            join(0) = 0; draw(2) = 20; account(3) = 99; account(12) = 0; droughtIn(0) = 1; night(1) = 99
            account(12) = 1
            droughtIn(0) = 0; droughtIn(999) = 0; rain(9) = 0; droughtIn(0) = 0; night(1) = 189
            droughtIn(0) = throws NoSuchElementException
            """,
            Scenes.WELL_OF_100 + "night(1) = 100; droughtIn(0) = throws NoSuchElementException; droughtIn(1) = 1");
    }

    private static void droughtInThrows(Sentences s) {
        s.of("Promise 23");
        s.holds("Throws `IllegalArgumentException` if the number is out of range", """
            droughtIn(-1) = throws IllegalArgumentException; droughtIn(1000) = throws IllegalArgumentException
            droughtIn(MIN) = throws IllegalArgumentException; droughtIn(MAX) = throws IllegalArgumentException
            droughtIn(999) = 1; droughtIn(0) = throws NoSuchElementException
            """, "household(9, 0, 0) = 0\n" + Scenes.DROUGHT + """
            droughtIn(-1) = throws IllegalArgumentException; droughtIn(1000) = throws IllegalArgumentException
            droughtIn(0) = 0; droughtIn(999) = 0
            """);
        s.holds("Throws `NoSuchElementException` if there would be none within 100 nights", """
            rain(0); droughtIn(4) = throws NoSuchElementException; droughtIn(5) = 81
            droughtIn(0) = throws NoSuchElementException
            """, Scenes.EIGHT + "rain(9) = 2\n" + Scenes.ALL_JOIN + """
            draw(19) = 181; night(2) = 499; rain(0) = 9; wellIn(99, 4) = 103; wellIn(100, 4) = 99; droughtIn(4) = 100
            rain(1) = 0; droughtIn(14) = 100; droughtIn(13) = throws NoSuchElementException
            """, "rain(1); droughtIn(14) = throws NoSuchElementException; wellIn(100, 14) = 100; "
            + "droughtIn(15) = 81", """
            rain(9); droughtIn(90) = throws NoSuchElementException; droughtIn(94) = throws NoSuchElementException
            wellIn(100, 94) = 100; droughtIn(95) = 81
            """);
    }

    private static void water(Sentences s) {
        s.of("Promise 24");
        String rich = Scenes.EIGHT + "rain(9) = 2; night(5) = 950; night(1) = 999\n" + Scenes.ALL_JOIN + """
            draw(40) = 340; night(3) = 929; night(1) = 999; account(3) = 999; account(4) = 340; account(5) = 61
            """;
        s.holds("Returns the water in the well, drawn and spilled, together.", "water() = 500; night(1); water() = 520",
            rich + "water() = 1400; undo(); water() = 1310; undo(); undo(); water() = 1040",
            "household(9, 0, 0) = 0\n" + Scenes.DROUGHT + "join(0) = 0; draw(3) = 15; night(1)\n".repeat(5)
            + "account(3) = 0; account(4) = 500; water() = 500");
        s.of("Promise 25");
        s.holds("Returns the same by a second way: by 500 and the rain that fell.",
            "waterAgain() = 500; rain(0); waterAgain() = 500; night(50); waterAgain() = 500; rain(9); "
            + "waterAgain() = 500; "
            + "night(1); waterAgain() = 590; night(50); waterAgain() = 5090; save(); night(1); restore(); "
            + "waterAgain() = 5090; water() = 5090",
            rich + "waterAgain() = 1400; undo(); waterAgain() = 1310; undo(); undo(); waterAgain() = 1040");
    }

    private static void meanTemper(Sentences s) {
        s.of("Promise 32");
        s.holds("Returns the mean temper of the households: their sum divided by their number, both as floats.", """
            household(1, 0, 9) = 0; meanTemper() = 9; household(1, 5, 0) = 1; meanTemper() = 9 / 2
            household(1, 9, 1) = 2; meanTemper() = 10 / 3; household(1, 12, 1) = 3; household(1, 15, 0) = 4
            household(1, 18, 0) = 5; meanTemper() = 11 / 6; household(1, 3, 0) = 6; meanTemper() = 11 / 7
            household(1, 7, 9) = 7; meanTemper() = 20 / 8
            """, "household(1, 0, 0) = 0; meanTemper() = 0",
            Scenes.meeting("9, 5, 9", "9, 7, 9", "", -1) + "meanTemper() = 17 / 2; undo(); meanTemper() = 9");
        s.holds("Throws `ArithmeticException` if there are none", """
            meanTemper() = throws ArithmeticException; household(1, 0, 0) = 0; meanTemper() = 0; undo() = 0
            meanTemper() = throws ArithmeticException
            """);
    }

    private static void share(Sentences s) {
        s.of("Promise 33");
        s.holds("Returns the share of the water that was drawn so far that a household drew, both as doubles.", """
            household(9, 0, 0) = 0; household(9, 9, 0) = 1; household(9, 18, 0) = 2; join(0) = 0; draw(1) = 10
            share(0) = 1; share(1) = 0; join(1) = 1; join(2) = 2; draw(2) = 20; share(0) = 20 / 30; share(1) = 10 / 30
            share(2) = 0; night(1); share(0) = 20 / 30; join(2) = 0; draw(5) = 50; join(1) = 0; draw(4) = 38
            share(0) = 20 / 118; share(1) = 48 / 118; share(2) = 50 / 118
            """);
        s.holds(NO_HOUSEHOLD, withoutHousehold("share(#)"));
        s.holds("Throws `ArithmeticException` if nothing was drawn", """
            household(9, 0, 0) = 0; join(0) = 0; share(0) = throws ArithmeticException; draw(1) = 10; share(0) = 1
            undo(); share(0) = throws ArithmeticException; draw(1); night(1); share(0) = 1
            """);
    }

    private static void account(Sentences s) {
        s.of("Promise 34");
        s.holds("`what`: 0 for the day, 1 for the households, 2 for those in the queue, 3 for the water of the well,"
            + " 4 for the water that was drawn so far, 5 for the water that was spilled so far, 6 for the draws so"
            + " far, 7 for the quarrels so far, 8 for the wear of the leather, 9 for the coins, 10 for the law, 11"
            + " for the rain, 12 for 1 if there is a drought, otherwise 0, 13 for the minutes that are kept, 14 for"
            + " the changes that can be undone, 15 for the characters in the text buffer", """
            household(9, 0, 9) = 0; household(9, 1, 9) = 1; household(4, 9, 0) = 2; household(5, 18, 0) = 3
            household(5, 17, 0) = 4; rain(9) = 2; collect(47) = 47; say("j0;j1;n6") = 3; say("p;v;j0;j2;d3") = 5
            write("v;")
            account(0) = 6; account(1) = 5; account(2) = 2; account(3) = 969; account(4) = 30; account(5) = 41
            account(6) = 3; account(7) = 1; account(8) = 3; account(9) = 27; account(10) = 0; account(11) = 9
            account(12) = 0; account(13) = 6; account(14) = 8; account(15) = 2
            """, "household(9, 0, 0) = 0; household(6, 9, 0) = 1; household(6, 12, 0) = 2\n" + Scenes.DROUGHT + """
            vote() = 2; account(12) = 1; account(10) = 2; account(8) = 50; account(0) = 11; account(13) = 20
            account(14) = 8; account(3) = 75; account(4) = 425
            """);
        s.holds("Throws `IllegalArgumentException` if what is not from 0 to 15", """
            account(-1) = throws IllegalArgumentException; account(0) = 0; account(15) = 0
            account(16) = throws IllegalArgumentException; account(MIN) = throws IllegalArgumentException
            account(MAX) = throws IllegalArgumentException
            """);
    }
}
