/** The bounds of the promises 1 to 10: for each sentence a test of its own. */
final class BoundsOfActions {
    private static final String REFUSAL = "Throws `UnsupportedOperationException` if it is refused for the reason ";

    private BoundsOfActions() {
    }

    static void ask(Sentences s) {
        newObject(s);
        household(s);
        join(s);
        leave(s);
        draw(s);
        drawRefused(s);
        vote(s);
        rain(s);
        night(s);
        collect(s);
        leather(s);
    }

    private static void newObject(Sentences s) {
        s.of("Promise 1");
        s.holds("Creates a pump without households, on the day 0.", """
            account(0) = 0; account(1) = 0; account(2) = 0; account(3) = 500; account(4) = 0; account(5) = 0
            account(6) = 0; account(7) = 0; account(8) = 0; account(9) = 0; account(10) = 0; account(11) = 2
            account(12) = 0; account(13) = 0; account(14) = 0; account(15) = 0
            water() = 500; waterAgain() = 500; possible() = 0; faultPosition() = -1; queue() = ""; minutes() = ""
            householdOf(0, 0) = throws IndexOutOfBoundsException; at(0) = throws IndexOutOfBoundsException
            neighbours(0) = throws IndexOutOfBoundsException; quarrels(0, 0) = throws IndexOutOfBoundsException
            wouldWin(0, 0) = throws IndexOutOfBoundsException; turnsBy(0, 0) = throws IndexOutOfBoundsException
            isFor(0) = throws IndexOutOfBoundsException; turnIn(0) = throws IndexOutOfBoundsException
            share(0) = throws IndexOutOfBoundsException; meanTemper() = throws ArithmeticException
            membersFor(0) = 0; membersFor(1) = 0; membersFor(2) = 0; membersFor(3) = 0
            """, """
            line(0) = throws IndexOutOfBoundsException; character(0) = throws IndexOutOfBoundsException
            reason(0) = throws NoSuchElementException; undo() = throws IllegalStateException
            restore() = throws IllegalStateException; commands() = throws IllegalArgumentException; faultPosition() = 0
            vote() = refused 3 0; join(0) = refused 3 0; leave(0) = refused 3 0; draw(1) = refused 7 0
            leather() = refused 9 20
            """);
    }

    private static void household(Sentences s) {
        s.of("Promise 2");
        s.holds("Adds a household. - `members`: its members - `place`: its place - `temper`: its temper Returns its"
            + " number.",
            """
            household(1, 0, 0) = 0; household(9, 19, 9) = 1; account(1) = 2
            householdOf(0, 0) = 1; householdOf(0, 1) = 0; householdOf(0, 2) = 0; householdOf(0, 3) = 1
            householdOf(1, 0) = 9; householdOf(1, 1) = 19; householdOf(1, 2) = 9; householdOf(1, 3) = 5
            householdOf(1, 4) = 5; householdOf(1, 5) = 0; householdOf(1, 6) = 0; householdOf(1, 7) = 0
            householdOf(1, 8) = -1
            household(9, 19, 9) = 2; household(9, 19, 9) = 3; household(9, 19, 9) = 4; household(9, 19, 9) = 5
            household(9, 19, 9) = 6; household(9, 19, 9) = 7; account(1) = 8
            """, """
            household(9, 0, 0) = 0; household(1, 5, 9) = 1; join(1) = 0; draw(1) = 10; undo(); undo(); undo()
            household(9, 9, 0) = 1; householdOf(1, 0) = 9; householdOf(1, 5) = 0; householdOf(1, 7) = 0
            """);
        s.holds(REFUSAL + "1 or 2; the reason is kept", """
            household(0, 0, 0) = refused 1 0; household(10, 0, 0) = refused 1 0; household(1, -1, 0) = refused 1 0
            household(1, 20, 0) = refused 1 0; household(1, 0, -1) = refused 1 0; household(1, 0, 10) = refused 1 0
            household(MIN, MIN, MIN) = refused 1 0; household(MAX, MAX, MAX) = refused 1 0; account(1) = 0
            """, Scenes.EIGHT + """
            household(1, 0, 0) = refused 2 8; household(9, 19, 9) = refused 2 8; household(0, 0, 0) = refused 1 0
            reason(0) = 1; vote() = 0; reason(0) = 1; account(1) = 8
            """, "household(1, 0, 0)\n".repeat(7) + "household(9, 19, 9) = 7; household(1, 0, 0) = refused 2 8");
    }

    private static void join(Sentences s) {
        s.of("Promise 3");
        s.holds("Returns its place in the queue, or -1 if it lost a quarrel.", Scenes.EIGHT + Scenes.ALL_JOIN + """
            householdOf(0, 8) = 0; householdOf(7, 8) = 7
            """, Scenes.meeting("9, 5, 5", "9, 7, 5", "", -1) + "householdOf(1, 8) = -1",
            Scenes.meeting("9, 5, 4", "9, 7, 5", "", 1) + "householdOf(1, 8) = 1",
            Scenes.meeting("9, 5, 5", "9, 7, 5", "household(1, 7, 0)", 0) + "householdOf(1, 8) = 0", """
            household(9, 15, 0) = 0; household(9, 5, 5) = 1; household(9, 7, 5) = 2; household(1, 7, 0) = 3
            join(0) = 0; join(1) = 1; join(2) = 1; queue() = "0 2"
            """);
        s.holds(REFUSAL + "3, 4 or 6; the reason is kept", """
            join(0) = refused 3 0; household(3, 0, 0) = 0; household(2, 9, 0) = 1; join(2) = refused 3 2
            join(-1) = refused 3 -1; join(MIN) = refused 3 -2147483648; join(MAX) = refused 3 2147483647
            join(1) = 0; join(0) = 1; join(1) = refused 4 0; join(0) = refused 4 1; draw(1) = 10
            join(1) = refused 6 1; join(0) = refused 4 0; draw(1) = 10; join(0) = refused 4 0; draw(1) = 10
            join(0) = refused 6 2; join(1) = refused 6 1; join(2) = refused 3 2; vote() = 2; reason(0) = 3
            """);
    }

    private static void leave(Sentences s) {
        s.of("Promise 4");
        s.holds("Returns the place that it had.", Scenes.EIGHT + Scenes.ALL_JOIN + """
            leave(7) = 7; leave(0) = 0; queue() = "1 2 3 4 5 6"; leave(3) = 2; queue() = "1 2 4 5 6"; leave(6) = 4
            leave(1) = 0; leave(2) = 0; leave(5) = 1; leave(4) = 0; queue() = ""
            """, "household(9, 0, 0) = 0; join(0) = 0; leave(0) = 0; account(2) = 0");
        s.holds(REFUSAL + "3 or 5; the reason is kept", """
            leave(0) = refused 3 0; household(9, 0, 0) = 0; leave(0) = refused 5 0; leave(1) = refused 3 1
            leave(-1) = refused 3 -1; leave(MIN) = refused 3 -2147483648; leave(MAX) = refused 3 2147483647
            join(0) = 0; leave(0) = 0; leave(0) = refused 5 0; vote() = 0; reason(0) = 5; reason(1) = 0
            """);
    }

    private static void draw(Sentences s) {
        s.of("Promise 5");
        s.holds("`draws`: how many draws, 1 to 50", Scenes.EIGHT + Scenes.ALL_JOIN + """
            draw(0) = refused 1 0; draw(-1) = refused 1 0; draw(MIN) = refused 1 0; draw(51) = refused 1 0
            draw(MAX) = refused 1 0; draw(50) = refused 7 40; draw(1) = 10; account(6) = 1; draw(39) = 330
            account(6) = 40
            """);
        s.holds("Lets households draw, one after the other.", Scenes.EIGHT + Scenes.ALL_JOIN + """
            draw(8) = 80; queue() = "0 1 2 3 4 5 6 7"; draw(1) = 10; queue() = "1 2 3 4 5 6 7 0"; draw(31) = 250
            queue() = ""; account(6) = 40
            """);
        s.holds("Returns the water that they bring.", Scenes.EIGHT + Scenes.ALL_JOIN + """
            draw(40) = 340; account(4) = 340; account(3) = 160; householdOf(0, 7) = 44; householdOf(7, 7) = 41
            """, "household(9, 0, 0) = 0; join(0) = 0; draw(1) = 10; draw(4) = 40; account(4) = 50");
    }

    private static void drawRefused(Sentences s) {
        s.of("Promise 5");
        s.holds(REFUSAL + "1, 7 or 8; the reason is kept", """
            household(3, 0, 0) = 0; household(1, 9, 0) = 1; draw(0) = refused 1 0; draw(1) = refused 7 0; join(0) = 0
            draw(3) = refused 7 2; join(1) = 1; draw(4) = refused 7 3; draw(3) = 30; draw(1) = refused 7 0; vote() = 2
            reason(0) = 7; reason(1) = 0; draw(51) = refused 1 0
            """, "household(9, 0, 0) = 0; household(9, 9, 0) = 1\n" + Scenes.DROUGHT
            + "join(0) = 0; draw(3) = 15; night(1)\n".repeat(4) + """
            join(0) = 0; join(1) = 1; draw(7) = refused 7 6; draw(6) = refused 8 15; draw(4) = refused 8 15
            queue() = "0 1"; draw(2) = 10; draw(2) = refused 8 5; draw(1) = 5; draw(1) = refused 8 0; account(3) = 0
            """);
    }

    private static void vote(Sentences s) {
        s.of("Promise 6");
        s.holds("Returns the law then.", "household(9, 0, 9) = 0; vote() = 0; account(10) = 0",
            "household(1, 0, 9) = 0; vote() = 1; account(10) = 1", "household(1, 0, 0) = 0; vote() = 2; "
            + "account(10) = 2");
        s.holds(REFUSAL + "3, with the detail 0, if there are no households; the reason is kept", """
            vote() = refused 3 0; household(1, 0, 9) = 0; vote() = 1; reason(0) = 3; undo() = 1; undo() = 0
            vote() = refused 3 0; say("v") = refused 3 0; say("r1;v") = refused 3 0 1
            """);
    }

    private static void rain(Sentences s) {
        s.of("Promise 7");
        s.holds("Returns the rain before.", """
            rain(9) = 2; rain(0) = 9; rain(0) = 0; rain(1) = 0; account(11) = 1; undo() = 3; rain(8) = 0
            """);
        s.holds(REFUSAL + "1; the reason is kept", """
            rain(-1) = refused 1 0; rain(10) = refused 1 0; rain(MIN) = refused 1 0; rain(MAX) = refused 1 0
            account(11) = 2; rain(0) = 2; rain(9) = 0; reason(0) = 1; reason(1) = 0; reason(2) = 0
            """);
    }

    private static void night(Sentences s) {
        s.of("Promise 8");
        s.holds("`nights`: how many, 1 to 50", """
            night(0) = refused 1 0; night(1) = 520; account(0) = 1; night(50) = 999; account(0) = 51
            night(51) = refused 1 0; night(-1) = refused 1 0; account(0) = 51
            """);
        s.holds("Returns the water of the well then.", """
            night(1) = 520; night(23) = 980; night(1) = 999; account(5) = 1; night(1) = 999; account(5) = 21
            rain(0) = 2; night(50) = 999; account(5) = 21; account(0) = 76
            """, "household(9, 0, 0) = 0\n" + Scenes.DROUGHT + "night(1) = 75; night(50) = 75");
        s.holds(REFUSAL + "1; the reason is kept", """
            household(9, 0, 0) = 0; join(0) = 0; draw(2) = 20; night(0) = refused 1 0; night(51) = refused 1 0
            night(MIN) = refused 1 0; night(MAX) = refused 1 0; queue() = "0"; night(50) = 999; reason(0) = 1
            """);
    }

    private static void collect(Sentences s) {
        s.of("Promise 9");
        s.holds("Collects coins; there are at most 500.", """
            collect(100) = 100; collect(100) = 200; collect(100) = 300; collect(100) = 400; collect(99) = 499
            collect(2) = refused 2 500; collect(1) = 500; account(9) = 500; collect(1) = refused 2 500
            """, """
            collect(100) = 100; collect(100) = 200; collect(100) = 300; collect(100) = 400; collect(100) = 500
            collect(1) = refused 2 500; account(9) = 500
            """);
        s.holds("`coins`: how many, 1 to 100", """
            collect(0) = refused 1 0; collect(1) = 1; collect(100) = 101; collect(101) = refused 1 0
            collect(-1) = refused 1 0; account(9) = 101
            """);
        s.holds("Returns the coins then.", "collect(7) = 7; collect(20) = 27; leather() = 0; collect(1) = 8");
        s.holds(REFUSAL + "1, or 2 for more than 500; the reason is kept", """
            collect(0) = refused 1 0; collect(101) = refused 1 0; collect(MIN) = refused 1 0; collect(MAX) = refused 1 0
            collect(100) = 100; collect(100) = 200; collect(100) = 300; collect(100) = 400; collect(1) = 401
            collect(MAX) = refused 1 0; collect(MIN) = refused 1 0; collect(100) = refused 2 500; collect(99) = 500
            reason(0) = 2; reason(1) = 500; collect(1) = refused 2 500; collect(101) = refused 1 0
            """);
    }

    private static void leather(Sentences s) {
        s.of("Promise 10");
        s.holds("Puts in a new leather for 20 coins: its wear is 0.", """
            household(9, 0, 0) = 0; collect(21); join(0) = 0; draw(4) = 40; account(8) = 4; leather() = 4
            account(8) = 0; account(9) = 1; draw(1) = 10; account(8) = 1
            """, "collect(20); leather() = 0; account(8) = 0; account(9) = 0");
        s.holds("Returns the wear before.", "household(9, 0, 0) = 0\n" + Scenes.DROUGHT + """
            collect(40); account(8) = 50; leather() = 50; leather() = 0
            """);
        s.holds(REFUSAL + "9; the reason is kept", """
            leather() = refused 9 20; collect(19) = 19; leather() = refused 9 1; account(13) = 0; collect(1) = 20
            leather() = 0; reason(0) = 9; reason(1) = 1; leather() = refused 9 20; account(9) = 0
            """);
    }
}
