/** The bounds that stand under Terms from Minutes to Details: for each sentence a test of its own. */
final class BoundsOfWords {
    private BoundsOfWords() {
    }

    static void ask(Sentences s) {
        minutesKept(s);
        minutesTold(s);
        texts(s);
        faults(s);
        allOrNone(s);
        firstReason(s);
        reasonsOfRoom(s);
        reasonsOfTheQueue(s);
        reasonsOfDraws(s);
        reasonsKept(s);
        changes(s);
        changesKept(s);
        notOfChanges(s);
        unchanged(s);
        firstCondition(s);
        details(s);
        detailsAhead(s);
    }

    private static void minutesKept(Sentences s) {
        s.of("Minutes");
        String voteOnEachDay = "vote() = 1; night(1)\n";
        s.holds("The scribe keeps the latest 20 minutes, in their order.",
            "household(1, 0, 9) = 0\n" + voteOnEachDay.repeat(19) + """
            account(13) = 19; minute(0) = "d0 law1"; minute(18) = "d18 law1"
            line(19) = throws IndexOutOfBoundsException
            vote() = 1; account(13) = 20; minute(0) = "d0 law1"; minute(19) = "d19 law1"
            line(20) = throws IndexOutOfBoundsException
            night(1); vote() = 1; account(13) = 20; minute(0) = "d1 law1"; minute(1) = "d2 law1"
            minute(19) = "d20 law1"
            line(20) = throws IndexOutOfBoundsException
            """, "household(1, 0, 9) = 0\n" + voteOnEachDay.repeat(45) + """
            account(13) = 20; minutes() = "d25 law1,d26 law1,d27 law1,d28 law1,d29 law1,d30 law1,d31 law1,d32 law1,\
            d33 law1,d34 law1,d35 law1,d36 law1,d37 law1,d38 law1,d39 law1,d40 law1,d41 law1,d42 law1,d43 law1,d44 law1"
            """, Scenes.EIGHT + Scenes.ALL_JOIN + """
            draw(20) = 190; account(13) = 20; minute(0) = "d0 h0b10"; minute(19) = "d0 h3b9"; undo()
            draw(21) = 198; account(13) = 20; minute(0) = "d0 h1b10"; minute(18) = "d0 h3b9"; minute(19) = "d0 h4b8"
            undo(); account(13) = 0
            """);
    }

    private static void minutesTold(Sentences s) {
        s.of("Minutes");
        s.holds("There is a minute for each draw, each quarrel, each vote and each new leather.", """
            household(9, 5, 9) = 0; household(9, 7, 9) = 1; household(9, 0, 0) = 2; account(13) = 0
            join(0) = 0; account(13) = 0; join(1) = -1; account(13) = 1; join(1) = -1; account(13) = 2
            join(2) = 1; account(13) = 2; draw(1); account(13) = 3; draw(3); account(13) = 6
            vote(); account(13) = 7; leave(2); account(13) = 7; collect(40); account(13) = 7; leather(); account(13) = 8
            rain(9); account(13) = 8; night(3); account(13) = 8; save(); account(13) = 8
            join(0) = 0; join(0) = refused 4 0; account(13) = 8
            say("v;d2;j1;p;r0;n1") = 6; account(13) = 13; undo(); account(13) = 8; restore(); account(13) = 8
            """);
        s.holds("It is told as a line: \"d\" and the day, a blank, and then \"h\", the household, \"b\" and the water"
            + " of a draw;", Scenes.EIGHT + """
            join(7) = 0; draw(1) = 10; minute(0) = "d0 h7b10"; line(0) = 8; night(9); join(0) = 0; draw(1) = 10
            minute(1) = "d9 h0b10"; night(1); join(0) = 0; draw(1); minute(2) = "d10 h0b10"; line(2) = 9
            night(50); night(39); join(0) = 0; draw(1); minute(3) = "d99 h0b10"; night(1); join(0) = 0; draw(1)
            minute(4) = "d100 h0b10"; line(4) = 10
            draw(4); night(1); join(0) = 0; join(1) = 1; draw(2) = 19; minute(9) = "d101 h0b10"
            minute(10) = "d101 h1b9"
            line(10) = 9
            """);
        s.holds("\"h\", the winner, \"x\" and the loser of a quarrel;", """
            household(9, 5, 9) = 0; household(9, 7, 9) = 1; household(1, 7, 0) = 2
            join(0) = 0; join(1) = 0; minute(0) = "d0 h1x0"; join(0) = -1; minute(1) = "d0 h1x0"; night(1)
            household(1, 5, 0) = 3; join(0) = 0; join(1) = -1; minute(2) = "d1 h0x1"; line(2) = 7
            """);
        s.holds("\"law\" and the law that holds behind a vote;", """
            household(1, 0, 9) = 0; vote() = 1; minute(0) = "d0 law1"; household(2, 5, 0) = 1; vote() = 2
            minute(0) = "d0 law1"; minute(1) = "d0 law2"; household(9, 9, 9) = 2; vote() = 0; minute(2) = "d0 law0"
            """);
        s.holds("or \"leather\"; as in \"d3 h2b10\", \"d0 h1x4\", \"d5 law2\".", """
            collect(20); leather() = 0; minute(0) = "d0 leather"; line(0) = 10
            """, """
            household(9, 0, 0) = 0; household(9, 9, 0) = 1; household(9, 18, 0) = 2; night(3); join(2) = 0; draw(1) = 10
            minute(0) = "d3 h2b10"
            """, """
            household(9, 0, 9) = 0; household(9, 9, 9) = 1; household(9, 18, 0) = 2; household(9, 15, 0) = 3
            household(9, 9, 9) = 4; join(1) = 0; join(4) = -1; minute(0) = "d0 h1x4"
            """, "household(1, 0, 0) = 0; night(5); vote() = 2; minute(0) = \"d5 law2\"");
    }

    private static void texts(Sentences s) {
        s.of("Texts");
        s.holds("The text buffer holds one or more commands with \";\" between them, each a letter with numbers:",
            "say(\"r1\") = 1; account(11) = 1", "say(\"r1;r2\") = 2; account(11) = 2",
            "household(9, 0, 0) = 0; write(\"" + Scenes.SIXTY + "\"); account(15) = 60; commands() = 30; "
            + "account(2) = 1",
            Scenes.fault("", 0), Scenes.fault(";", 0), Scenes.fault(";v", 0), Scenes.fault("v;", 2),
            Scenes.fault("v;;v", 2), Scenes.fault("vv", 1), Scenes.fault("v v", 1), Scenes.fault("v;".repeat(30), 60));
        s.holds("\"j\" and a household that joins;", "household(9, 0, 0) = 0; say(\"j0\") = 1; queue() = \"0\"",
            Scenes.fault("i0", 0), Scenes.fault("k0", 0), Scenes.fault("J0", 0));
        s.holds("\"l\" and a household that leaves the queue;",
            "household(9, 0, 0) = 0; join(0) = 0; say(\"l0\") = 1; queue() = \"\"",
            Scenes.fault("m0", 0), Scenes.fault("L0", 0));
        s.holds("\"d\" and a number of draws;", "household(9, 0, 0) = 0; join(0) = 0; say(\"d3\") = 1; account(6) = 3",
            Scenes.fault("c1", 0), Scenes.fault("e1", 0), Scenes.fault("D1", 0), Scenes.fault("d-1", 1));
        s.holds("\"n\" and a number of nights;", "say(\"n3\") = 1; account(0) = 3",
            Scenes.fault("o1", 0), Scenes.fault("N1", 0), Scenes.fault("n+1", 1));
        s.holds("\"r\" and a rain;", "say(\"r0\") = 1; account(11) = 0; say(\"r9\") = 1; account(11) = 9",
            Scenes.fault("q1", 0), Scenes.fault("s1", 0), Scenes.fault("R1", 0), Scenes.fault("r-1", 1));
        s.holds("\"v\" for a vote;", "household(1, 0, 0) = 0; say(\"v\") = 1; account(10) = 2",
            Scenes.fault("u", 0), Scenes.fault("w", 0), Scenes.fault("V", 0), Scenes.fault("v0", 1));
        s.holds("\"p\" for a new leather.", "collect(20); say(\"p\") = 1; account(9) = 0; minute(0) = \"d0 leather\"",
            Scenes.fault("P", 0), Scenes.fault("p0", 1));
    }

    private static void faults(Sentences s) {
        s.of("Texts");
        s.holds("Households and the rain are one digit, other numbers have 1 or 2 digits.",
            Scenes.fault("j", 1), Scenes.fault("j00", 2), Scenes.fault("j/", 1), Scenes.fault("j:", 1),
            Scenes.fault("l", 1), Scenes.fault("l00", 2), Scenes.fault("l;", 1),
            Scenes.fault("r", 1), Scenes.fault("r10", 2), Scenes.fault("r/", 1), Scenes.fault("r:", 1),
            Scenes.fault("d", 1), Scenes.fault("d;", 1), Scenes.fault("d001", 3), Scenes.fault("d1/", 2),
            Scenes.fault("d1:", 2), Scenes.fault("d12v", 3), Scenes.fault("d/", 1), Scenes.fault("d:", 1),
            Scenes.fault("n", 1), Scenes.fault("n100", 3), Scenes.fault("nv", 1), Scenes.fault("n1v", 2),
            "household(9, 0, 0) = 0; say(\"j9\") = refused 3 9; say(\"l9\") = refused 3 9; "
            + "say(\"j8\") = refused 3 8", """
            say("n0") = refused 1 0; say("n00") = refused 1 0; say("n1") = 1; say("n01") = 1; account(0) = 2
            say("n50") = 1; account(0) = 52; say("n51") = refused 1 0; say("n99") = refused 1 0; account(0) = 52
            """, Scenes.EIGHT + """
            join(0) = 0; join(1) = 1; join(2) = 2; say("d0") = refused 1 0; say("d00") = refused 1 0; say("d9") = 1
            account(6) = 9; undo(); say("d09") = 1; account(6) = 9; undo(); say("d10") = 1; account(6) = 10
            say("d50") = refused 7 5; say("d51") = refused 1 0; say("d99") = refused 1 0
            """);
        s.holds("The fault position of a text is the index of its first character that cannot continue such a text,"
            + " or the length of the text if it ends too early.",
            Scenes.fault("x", 0), Scenes.fault("v;x;y", 2), Scenes.fault("j0;j", 4), Scenes.fault("j0;", 3),
            Scenes.fault("j0;d12;n123;x", 10), Scenes.fault(" v", 0), Scenes.fault("v ", 1), Scenes.fault("v; v", 2),
            Scenes.fault("v,v", 1), Scenes.fault("v:v", 1), Scenes.fault("v<v", 1), Scenes.fault("0", 0),
            Scenes.fault("\u0000", 0), Scenes.fault("\u00ff", 0), Scenes.fault("\u0176", 0), Scenes.fault("j\u0130", 1),
            Scenes.fault("v\u013bv", 1), Scenes.fault("\uffff", 0), Scenes.fault("j\u0660", 1),
            Scenes.fault("v;".repeat(29) + "jv", 59), Scenes.fault("v;".repeat(29) + "vv", 59),
            Scenes.fault("v;".repeat(29) + "vj", 59), Scenes.fault("v;".repeat(29) + "j", 59),
            Scenes.fault("v;".repeat(28) + "r1;j", 60), "faultPosition() = -1; say(\"r0\") = 1; faultPosition() = -1");
    }

    private static void allOrNone(Sentences s) {
        s.of("Texts");
        String two = "household(9, 0, 0) = 0; household(9, 5, 0) = 1; collect(30)\n";
        s.holds("The commands are carried out as the methods would, all of them or none.", two + """
            say("j0;j1;d3;l0;v;p;r7;n2") = 8; queue() = ""; account(0) = 2; account(3) = 610; account(9) = 10
            account(8) = 0; account(11) = 7; account(6) = 3; account(14) = 4
            minutes() = "d0 h0b10,d0 h1b10,d0 h0b10,d0 law0,d0 leather"
            """, two + """
            join(0) = 0; join(1) = 1; draw(3) = 30; leave(0) = 1; vote() = 0; leather() = 3; rain(7) = 2; night(2) = 610
            queue() = ""; account(0) = 2; account(3) = 610; account(9) = 10
            account(8) = 0; account(11) = 7; account(6) = 3; account(14) = 8
            minutes() = "d0 h0b10,d0 h1b10,d0 h0b10,d0 law0,d0 leather"
            """, two + """
            say("j0;j1;d3;l0;v;p;r7;n2;p") = refused 9 10 8; account(13) = 0; account(0) = 0; account(14) = 3
            """, "household(9, 0, 0) = 0; household(9, 5, 0) = 1; say(\"" + "v;".repeat(29) + "l0\") = refused 5 0 29\n"
            + "account(13) = 0", two + "say(\"l0;j0\") = refused 5 0 0; account(2) = 0",
            Scenes.fault("v;v;v;", 6) + "account(13) = 0");
    }

    private static void firstReason(Sentences s) {
        s.of("Reasons");
        s.holds("Something is refused for the first that applies of the reasons that its method names, in the order"
            + " in which it names them:", Scenes.EIGHT + """
            household(0, 0, 0) = refused 1 0; household(1, 20, 0) = refused 1 0; household(1, 0, 10) = refused 1 0
            household(1, 0, 0) = refused 2 8
            """, Scenes.EIGHT + """
            draw(0) = refused 1 0; draw(51) = refused 1 0; draw(50) = refused 7 0; draw(1) = refused 7 0
            """, "household(9, 0, 0) = 0; household(9, 9, 0) = 1\n" + Scenes.DROUGHT
            + "join(0) = 0; draw(3) = 15; night(1)\n".repeat(4) + """
            join(0) = 0; join(1) = 1; draw(51) = refused 1 0; draw(7) = refused 7 6; draw(6) = refused 8 15
            draw(4) = refused 8 15; draw(3) = 15
            """, "collect(100) = 100; collect(100); collect(100); collect(100); collect(99) = 499\n" + """
            collect(101) = refused 1 0; collect(0) = refused 1 0; collect(2) = refused 2 500; collect(1) = 500
            collect(101) = refused 1 0
            """);
        s.holds("1, a number is out of range;", """
            household(0, 0, 0) = refused 1 0; household(10, 0, 0) = refused 1 0; household(1, -1, 0) = refused 1 0
            household(1, 20, 0) = refused 1 0; household(1, 0, -1) = refused 1 0; household(1, 0, 10) = refused 1 0
            household(1, 0, 0) = 0; household(9, 19, 9) = 1; join(0) = 0
            draw(0) = refused 1 0; draw(51) = refused 1 0; draw(50) = refused 7 1; draw(1) = 10
            rain(-1) = refused 1 0; rain(10) = refused 1 0; rain(0) = 2; rain(9) = 0
            night(0) = refused 1 0; night(51) = refused 1 0; night(1) = 580; night(50) = 999
            collect(0) = refused 1 0; collect(101) = refused 1 0; collect(1) = 1; collect(100) = 101
            """);
    }

    private static void reasonsOfRoom(Sentences s) {
        s.of("Reasons");
        s.holds("2, there are as many as there can be: this number;", Scenes.EIGHT + """
            household(1, 0, 0) = refused 2 8; undo() = 7; household(1, 0, 0) = 7; household(1, 0, 0) = refused 2 8
            """, "collect(100); collect(100); collect(100); collect(100) = 400\n" + """
            collect(100) = 500; collect(1) = refused 2 500; undo(); collect(1) = 401; collect(100) = refused 2 500
            collect(99) = 500; collect(100) = refused 2 500; leather() = 0; collect(21) = refused 2 500
            collect(20) = 500
            """);
        s.holds("3, there is no such household: its number;", """
            join(0) = refused 3 0; leave(0) = refused 3 0; vote() = refused 3 0
            household(9, 0, 0) = 0; vote() = 0; join(-1) = refused 3 -1; leave(-1) = refused 3 -1
            join(1) = refused 3 1; leave(1) = refused 3 1; join(MIN) = refused 3 -2147483648
            leave(MIN) = refused 3 -2147483648; join(MAX) = refused 3 2147483647; leave(MAX) = refused 3 2147483647
            join(8) = refused 3 8; join(0) = 0; leave(0) = 0
            """, Scenes.EIGHT + """
            join(8) = refused 3 8; leave(8) = refused 3 8; join(7) = 0; leave(7) = 0; undo() = 7
            """, "household(9, 0, 0) = 0; household(9, 5, 0) = 1; undo() = 1; join(1) = refused 3 1; join(0) = 0");
    }

    private static void reasonsOfTheQueue(Sentences s) {
        s.of("Reasons");
        s.holds("4, it waits in the queue: its place, from 0;", Scenes.EIGHT + Scenes.ALL_JOIN + """
            join(0) = refused 4 0; join(7) = refused 4 7; join(4) = refused 4 4; draw(1); join(0) = refused 4 7
            join(1) = refused 4 0; leave(0) = 7; join(0) = 7
            """, "household(9, 0, 0) = 0; join(0) = 0; join(0) = refused 4 0; leave(0) = 0; join(0) = 0");
        s.holds("5, it does not wait;", """
            household(1, 0, 0) = 0; household(9, 9, 0) = 1; leave(0) = refused 5 0; join(0) = 0; leave(1) = refused 5 0
            leave(0) = 0; leave(0) = refused 5 0; join(0) = 0; draw(1) = 10; leave(0) = refused 5 0
            join(1) = 0; night(1); leave(1) = refused 5 0
            """, Scenes.meeting("9, 5, 9", "9, 7, 9", "", -1) + "leave(1) = refused 5 0; leave(0) = 0");
        s.holds("6, it has no turns left: its draws on this day;", """
            household(3, 0, 0) = 0; join(0) = 0; draw(1) = 10; leave(0) = 0; join(0) = 0; draw(1) = 10
            join(0) = refused 6 2; night(1); join(0) = 0
            """, "household(9, 0, 0) = 0; join(0) = 0; draw(5) = 50; join(0) = refused 6 5",
            Scenes.meeting("2, 5, 9", "2, 7, 9", "", -1) + "join(1) = refused 6 0",
            Scenes.meeting("4, 5, 9", "4, 7, 9", "", -1) + """
            leave(0) = 0; join(1) = 0; draw(1) = 10; join(1) = refused 6 1
            """);
    }

    private static void reasonsOfDraws(Sentences s) {
        s.of("Reasons");
        s.holds("7, there are not so many draws in the queue: how many there are;", Scenes.EIGHT + """
            draw(1) = refused 7 0; join(0) = 0; draw(6) = refused 7 5; draw(5) = 50; draw(1) = refused 7 0; undo()
            undo()
            """ + Scenes.ALL_JOIN + """
            draw(41) = refused 7 40; draw(50) = refused 7 40; draw(39) = 333; draw(2) = refused 7 1; draw(1) = 7
            draw(1) = refused 7 0
            """, Scenes.meeting("9, 5, 9", "9, 7, 9", "", -1) + "leave(0) = 0; join(1) = 0; draw(5) = refused 7 4; "
            + "draw(4) = 40");
        s.holds("8, the well has too little water for all of them: its water;",
            "household(9, 0, 0) = 0; household(9, 9, 0) = 1\n" + Scenes.DROUGHT
            + "join(0) = 0; draw(3) = 15; night(1)\n".repeat(4) + """
            join(0) = 0; join(1) = 1; draw(4) = refused 8 15; draw(3) = 15; draw(1) = refused 8 0
            """, Scenes.EIGHT + "rain(5); collect(20)\n" + Scenes.ALL_JOIN + """
            draw(14) = 136; leather() = 14; draw(26) = 238; night(1) = 176
            """ + Scenes.ALL_JOIN + """
            draw(24) = 162; account(3) = 14; possible() = 16
            draw(3) = refused 8 14; draw(16) = refused 8 14; draw(2) = 10; draw(1) = refused 8 4
            """);
        s.holds("9, there are too few coins: how many are lacking.", """
            leather() = refused 9 20; collect(1); leather() = refused 9 19; collect(18); leather() = refused 9 1
            collect(1) = 20; leather() = 0; account(9) = 0; leather() = refused 9 20
            """, "collect(39); leather() = 0; leather() = refused 9 1; collect(1); leather() = 0");
    }

    private static void reasonsKept(Sentences s) {
        s.of("Reasons");
        s.holds("If nothing else is told, the detail is 0.", """
            reason(0) = throws NoSuchElementException; leave(9) = refused 3 9
            collect(0) = refused 1 0; reason(1) = 0; leave(9) = refused 3 9
            household(9, 0, 0) = 0; household(9, 9, 0) = 1; leave(1) = refused 5 0; reason(1) = 0; join(1) = 0
            leave(0) = refused 5 0; reason(1) = 0; draw(50) = refused 7 5; rain(10) = refused 1 0; reason(1) = 0
            """);
        s.holds("The reason is kept with the index of the command of a text, from 0, or 0 for another call.",
            "household(9, 0, 0) = 0; say(\"l0;v\") = refused 5 0 0; say(\"v;l0\") = refused 5 0 1\n"
            + "reason(2) = 1; leave(7) = refused 3 7 0; reason(2) = 0; say(\"" + "v;".repeat(29) + "l7\") = refused"
            + " 3 7 29\n"
            + "reason(2) = 29; vote() = 0; reason(2) = 29; rain(10) = refused 1 0 0; reason(2) = 0", """
            household(9, 0, 0) = 0; say("v;v;d1") = refused 7 0 2; say("v;x") = throws IllegalArgumentException
            reason(0) = 7; reason(1) = 0; reason(2) = 2; draw(1) = refused 7 0; reason(2) = 0
            """);
    }

    private static void changes(Sentences s) {
        s.of("Changes");
        s.holds("What can be undone are the successful calls of household, join, leave, draw, vote, rain, night,"
            + " collect, leather and commands.", """
            account(14) = 0; household(9, 0, 0) = 0; account(14) = 1; join(0) = 0; account(14) = 2; draw(1) = 10
            account(14) = 3; leave(0) = 0; account(14) = 4; vote() = 0; account(14) = 5; rain(3) = 2; account(14) = 6
            night(1) = 520; account(14) = 7
            undo() = 6; account(0) = 0; undo() = 5; account(11) = 2; undo() = 4; account(13) = 1; undo() = 3
            queue() = "0"; undo() = 2; account(6) = 0; undo() = 1; queue() = ""; undo() = 0; account(1) = 0
            undo() = throws IllegalStateException
            """, """
            collect(20) = 20; account(14) = 1; leather() = 0; account(14) = 2; say("r1;r3;n2") = 3; account(14) = 3
            undo() = 2; account(11) = 2; account(0) = 0; undo() = 1; account(9) = 20; undo() = 0; account(9) = 0
            """, """
            household(9, 0, 0) = 0; rain(2) = 2; account(14) = 2; collect(0) = refused 1 0; join(5) = refused 3 5
            leave(0) = refused 5 0; draw(1) = refused 7 0; rain(-1) = refused 1 0; night(0) = refused 1 0
            leather() = refused 9 20; household(0, 0, 0) = refused 1 0; say("l0") = refused 5 0
            say("") = throws IllegalArgumentException; account(14) = 2
            append('v') = 1; save() = 0; possible() = 0; line(0) = throws IndexOutOfBoundsException; account(14) = 2
            undo() = 1; undo() = 0; account(1) = 0; account(15) = 1
            """, Scenes.meeting("9, 5, 9", "9, 7, 9", "", -1) + """
            account(14) = 4; undo() = 3; quarrels(0, 1) = 0; householdOf(0, 2) = 9; householdOf(1, 6) = 0
            """);
    }

    private static void changesKept(Sentences s) {
        s.of("Changes");
        s.holds("What there was before each of the latest 8 is kept;", """
            collect(1) = 1; collect(1) = 2; collect(1) = 3; collect(1) = 4; collect(1) = 5; collect(1) = 6
            collect(1) = 7
            account(14) = 7; collect(1) = 8; account(14) = 8
            undo() = 7; undo() = 6; undo() = 5; undo() = 4; undo() = 3; undo() = 2; undo() = 1; undo() = 0
            account(9) = 0
            undo() = throws IllegalStateException
            """, """
            collect(1) = 1; collect(1) = 2; collect(1) = 3; collect(1) = 4; collect(1) = 5; collect(1) = 6
            collect(1) = 7
            collect(1) = 8; collect(1) = 9; account(14) = 8
            undo() = 7; account(9) = 8; undo() = 6; undo() = 5; undo() = 4; undo() = 3; undo() = 2; undo() = 1
            undo() = 0
            account(9) = 1; undo() = throws IllegalStateException; account(9) = 1
            """, "collect(1)\n".repeat(17) + """
            undo() = 7; undo() = 6; undo() = 5; account(9) = 14; collect(5) = 19; account(14) = 6; collect(5) = 24
            collect(5) = 29; account(14) = 8; collect(5) = 34; account(14) = 8
            undo() = 7; account(9) = 29; undo() = 6; undo() = 5; undo() = 4; account(9) = 14; undo() = 3
            account(9) = 13
            undo() = 2; undo() = 1; undo() = 0; account(9) = 10; undo() = throws IllegalStateException
            """);
        s.holds("restore forgets it.", """
            save() = 0; collect(1); collect(1); account(14) = 2; restore() = 0; account(14) = 0
            undo() = throws IllegalStateException; collect(7) = 7; account(14) = 1; undo() = 0; account(9) = 0
            undo() = throws IllegalStateException
            """, "collect(3)\n".repeat(9) + """
            save() = 0; account(14) = 8; restore() = 0; account(14) = 0; account(9) = 27
            undo() = throws IllegalStateException
            """, "restore() = throws IllegalStateException; collect(3); restore() = throws IllegalStateException; "
            + "undo() = 0");
    }

    private static void notOfChanges(Sentences s) {
        s.of("Changes");
        s.holds("The text buffer, the fault position, the reason and the line do not belong to it, and stay.", """
            household(9, 0, 0) = 0; save() = 0; vote() = 0; line(0) = 7; say("v;;") = throws IllegalArgumentException
            leave(5) = refused 3 5; write("r7")
            undo() = 1; faultPosition() = 2; reason(0) = 3; reason(1) = 5; reason(2) = 0; account(15) = 2
            character(6) = '0'; character(7) = throws IndexOutOfBoundsException; account(13) = 0
            restore() = 0; faultPosition() = 2; reason(0) = 3; reason(1) = 5; account(15) = 2; character(3) = 'l'
            collect(0) = refused 1 0; restore() = 0; reason(0) = 1; reason(1) = 0
            commands() = 1; account(11) = 7; faultPosition() = -1; undo() = 0; faultPosition() = -1; account(15) = 0
            restore() = 0; account(15) = 0; faultPosition() = -1; reason(0) = 1
            """, """
            household(9, 0, 0) = 0; save(); write("v"); undo() = 0; account(15) = 1; restore() = 0; account(15) = 1
            commands() = 1
            """);
    }

    private static void unchanged(Sentences s) {
        s.of("Exceptions");
        s.holds("A call that throws an exception leaves the state unchanged, unless stated otherwise.", """
            household(9, 5, 9) = 0; household(9, 7, 9) = 1; household(4, 0, 0) = 2; collect(19); night(2)
            join(0) = 0; save() = 2; join(1) = -1; join(2) = 1; draw(3) = 30; vote() = 0; line(0) = 7
            say("v;;") = throws IllegalArgumentException; faultPosition() = 2
            say("v;v;j0") = refused 4 1 2; write("v;d1")
            household(0, 0, 0) = refused 1 0; join(3) = refused 3 3; join(2) = refused 4 0; leave(3) = refused 3 3
            leave(1) = refused 5 0; draw(0) = refused 1 0; draw(9) = refused 7 4; rain(10) = refused 1 0
            night(51) = refused 1 0; collect(101) = refused 1 0; leather() = refused 9 1
            householdOf(3, 0) = throws IndexOutOfBoundsException; householdOf(0, 9) = throws IllegalArgumentException
            at(2) = throws IndexOutOfBoundsException; neighbours(3) = throws IndexOutOfBoundsException
            quarrels(0, 3) = throws IndexOutOfBoundsException; wouldWin(3, 0) = throws IndexOutOfBoundsException
            wouldWin(1, 1) = throws IllegalArgumentException; turnsBy(3, 0) = throws IndexOutOfBoundsException
            turnsBy(0, 4) = throws IllegalArgumentException; isFor(3) = throws IndexOutOfBoundsException
            membersFor(4) = throws IllegalArgumentException; turnIn(3) = throws IndexOutOfBoundsException
            turnIn(1) = throws NoSuchElementException; wouldBring(61) = throws IllegalArgumentException
            wellIn(101, 0) = throws IllegalArgumentException; droughtIn(1000) = throws IllegalArgumentException
            droughtIn(0) = throws NoSuchElementException; reason(3) = throws IllegalArgumentException
            line(5) = throws IndexOutOfBoundsException; character(7) = throws IndexOutOfBoundsException
            share(3) = throws IndexOutOfBoundsException; account(16) = throws IllegalArgumentException
            commands() = 2; minutes() = "d2 h0x1,d2 h0b10,d2 h2b10,d2 h0b10,d2 law0,d2 law0,d2 h2b10"
            """, """
            vote() = refused 3 0; meanTemper() = throws ArithmeticException; undo() = throws IllegalStateException
            restore() = throws IllegalStateException; reason(4) = throws IllegalArgumentException
            household(9, 0, 0) = 0
            share(0) = throws ArithmeticException
            """, "write(\"" + Scenes.SIXTY + "\"); append('v') = throws IllegalStateException; account(15) = 60");
    }

    private static void firstCondition(Sentences s) {
        s.of("Exceptions");
        s.holds("If several conditions of a method are fulfilled, the one that is listed first determines the"
            + " exception.", """
            reason(3) = throws IllegalArgumentException; reason(-1) = throws IllegalArgumentException
            reason(2) = throws NoSuchElementException; share(0) = throws IndexOutOfBoundsException
            household(9, 0, 0) = 0; share(0) = throws ArithmeticException; share(1) = throws IndexOutOfBoundsException
            householdOf(1, 9) = throws IndexOutOfBoundsException; householdOf(-1, -1) = throws IndexOutOfBoundsException
            wouldWin(1, 1) = throws IndexOutOfBoundsException; wouldWin(-1, -1) = throws IndexOutOfBoundsException
            wouldWin(0, 0) = throws IllegalArgumentException; turnsBy(1, 4) = throws IndexOutOfBoundsException
            turnsBy(-1, -1) = throws IndexOutOfBoundsException; turnsBy(0, 4) = throws IllegalArgumentException
            turnIn(1) = throws IndexOutOfBoundsException; turnIn(-1) = throws IndexOutOfBoundsException
            turnIn(0) = throws NoSuchElementException
            droughtIn(1000) = throws IllegalArgumentException; droughtIn(0) = throws NoSuchElementException
            say("l0;x") = throws IllegalArgumentException; reason(0) = throws NoSuchElementException
            say("l0;v") = refused 5 0 0
            """);
    }

    private static void details(Sentences s) {
        s.of("Details");
        s.holds("In a drought half of the turns by the law count.",
            "household(9, 0, 0) = 0; household(4, 9, 0) = 1\n" + Scenes.DROUGHT + """
            householdOf(0, 3) = 3; householdOf(0, 4) = 3; turnsBy(0, 0) = 5; turnsBy(1, 2) = 4; householdOf(1, 3) = 1
            join(0) = 0; possible() = 3; draw(2) = 10; householdOf(0, 4) = 1; draw(1) = 5; queue() = ""
            """);
        s.holds("Whether two quarrel is asked by their tempers as they are then, and whether they are neighbours is"
            + " asked each time.", """
            household(5, 8, 4) = 0; household(5, 9, 5) = 1; household(5, 10, 6) = 2
            household(1, 15, 0) = 3; household(1, 16, 0) = 4; household(1, 17, 0) = 5
            join(0) = 0; join(1) = 1; join(2) = 1; quarrels(2, 1) = 1; quarrels(2, 0) = 0; queue() = "0 2"
            """, """
            household(5, 8, 4) = 0; household(5, 9, 5) = 1; household(5, 10, 7) = 2
            household(1, 15, 0) = 3; household(1, 16, 0) = 4; household(1, 17, 0) = 5
            join(0) = 0; join(1) = 1; join(2) = 0; quarrels(2, 1) = 1; quarrels(2, 0) = 1; queue() = "2"
            """, """
            household(9, 13, 8) = 0; household(9, 11, 1) = 1; household(9, 10, 9) = 2
            household(1, 9, 0) = 3; household(1, 0, 0) = 4
            join(0) = 0; join(1) = 1; join(2) = 1; quarrels(2, 1) = 1; account(7) = 1; queue() = "0 2"
            """, """
            household(9, 12, 8) = 0; household(9, 11, 1) = 1; household(9, 10, 9) = 2
            household(1, 9, 0) = 3; household(1, 0, 0) = 4
            join(0) = 0; join(1) = 1; join(2) = 0; quarrels(2, 1) = 1; quarrels(2, 0) = 1; queue() = "2"
            """, Scenes.meeting("9, 5, 6", "9, 7, 4", "", -1) + """
            householdOf(0, 2) = 5; householdOf(1, 2) = 5; join(1) = -1; householdOf(0, 2) = 4; householdOf(1, 2) = 6
            join(1) = -1; join(1) = -1; householdOf(0, 2) = 2; householdOf(1, 2) = 8; householdOf(1, 4) = 1
            join(1) = -1; join(1) = refused 6 0; night(1); join(1) = 0; join(0) = -1
            """);
        s.holds("All households but the two vote, whether they wait or not.", """
            household(9, 5, 5) = 0; household(9, 7, 5) = 1; household(1, 15, 0) = 2
            join(2) = 0; join(0) = 1; join(1) = 1; queue() = "2 1"; quarrels(1, 0) = 1
            """, Scenes.meeting("9, 5, 5", "9, 7, 5", "household(1, 15, 0)", 0) + "queue() = \"1\"", """
            household(9, 5, 5) = 0; household(9, 7, 5) = 1; household(1, 15, 0) = 2; household(1, 0, 0) = 3
            join(2) = 0; join(0) = 1; join(1) = -1; queue() = "2 0"
            """, """
            household(9, 5, 5) = 0; household(9, 7, 5) = 1; household(1, 15, 0) = 2; household(1, 0, 0) = 3
            join(3) = 0; join(0) = 1; join(1) = -1; queue() = "3 0"
            """, """
            household(1, 15, 0) = 0; household(9, 5, 5) = 1; household(9, 7, 5) = 2; join(1) = 0; join(2) = 0
            queue() = "2"; quarrels(2, 1) = 1; wouldWin(1, 2) = 2; wouldWin(2, 1) = 2
            """, """
            household(9, 5, 5) = 0; household(9, 7, 5) = 1; household(1, 0, 0) = 2; household(1, 15, 0) = 3
            household(1, 0, 0) = 4; household(1, 15, 0) = 5; household(1, 15, 0) = 6; wouldWin(0, 1) = 1
            household(1, 0, 0) = 7; wouldWin(0, 1) = 0; join(0) = 0; join(1) = -1
            """, Scenes.meeting("9, 5, 5", "9, 7, 5", "", -1));
        s.holds("The detail of the reason 7 is the number of draws that are possible.", Scenes.EIGHT + """
            draw(1) = refused 7 0; join(0) = 0; join(1) = 1; possible() = 10; draw(11) = refused 7 10; draw(3) = 30
            possible() = 7; draw(8) = refused 7 7; draw(7) = 70
            """, "household(9, 0, 0) = 0\n" + Scenes.DROUGHT + "join(0) = 0; possible() = 3; draw(50) = refused 7 3");
    }

    private static void detailsAhead(Sentences s) {
        s.of("Details");
        s.holds("Whether a household has turns left behind a vote is asked with the drought of the day.", """
            household(9, 0, 0) = 0; household(4, 5, 9) = 1; household(6, 9, 9) = 2; household(4, 13, 9) = 3
            household(4, 16, 9) = 4; household(4, 19, 9) = 5
            """ + Scenes.DROUGHT + """
            membersFor(1) = 16; householdOf(2, 3) = 2; join(0) = 0; draw(2) = 10; householdOf(0, 4) = 1
            vote() = 1; householdOf(0, 3) = 2; queue() = ""; turnsBy(0, 1) = 3
            """, """
            household(9, 0, 0) = 0; household(4, 5, 9) = 1; household(4, 13, 9) = 2; household(4, 16, 9) = 3
            join(0) = 0; draw(2) = 20; vote() = 1; queue() = "0"; householdOf(0, 4) = 1
            """);
        s.holds("What draws would bring is told by the wear alone.", """
            wouldBring(10) = 100; wouldBring(11) = 109; wouldBring(60) = 450
            """, "household(9, 0, 0) = 0\n" + Scenes.DROUGHT + """
            account(3) = 75; wouldBring(60) = 300; wouldBring(16) = 80; possible() = 0; collect(20); leather() = 50
            wouldBring(60) = 450
            """);
        s.holds("The first of the days ahead is the present one.", """
            wellIn(0, 100) = 500; wellIn(1, 100) = 420; droughtIn(421) = 1; droughtIn(420) = 2; wellIn(1, 421) = 99
            rain(0) = 2; droughtIn(401) = 1; droughtIn(400) = 2
            wellIn(1, 401) = 99
            """);
        s.holds("A drought that there is now is that of the day.",
            "household(9, 0, 0) = 0\n" + Scenes.TEN_DRY_DAYS + """
            account(3) = 100; join(0) = 0; draw(1) = 5; account(3) = 95; account(12) = 0; droughtIn(0) = 1
            night(1) = 95; account(12) = 1; droughtIn(0) = 0; rain(9) = 0; droughtIn(0) = 0; droughtIn(999) = 0
            night(1) = 185; account(12) = 0; droughtIn(0) = throws NoSuchElementException; droughtIn(999) = 1
            """);
    }
}
