/** The bounds of the promises 26 to 31 and 35 to 37: for each sentence a test of its own. */
final class BoundsOfTexts {
    private BoundsOfTexts() {
    }

    static void ask(Sentences s) {
        append(s);
        commands(s);
        commandsThrow(s);
        faultPosition(s);
        reason(s);
        line(s);
        character(s);
        undo(s);
        save(s);
        restore(s);
    }

    private static void append(Sentences s) {
        s.of("Promise 26");
        s.holds("Returns the new length of the buffer.", """
            append('v') = 1; append(';') = 2; append(0) = 3; append(255) = 4; append(65535) = 5; account(15) = 5
            commands() = throws IllegalArgumentException; append('v') = 1; undo() = throws IllegalStateException
            append(';') = 2; save(); restore(); append('r') = 3
            """, "write(\"" + "v".repeat(58) + "\"); append('v') = 59; append('v') = 60");
        s.holds("Throws `IllegalStateException` if the buffer contains 60 characters",
            "household(9, 0, 0) = 0; write(\"" + Scenes.SIXTY.substring(0, 59) + "\"); account(15) = 59; "
            + "append('0') = 60\n"
            + "append('v') = throws IllegalStateException; append(0) = throws IllegalStateException\n"
            + "append(';') = throws IllegalStateException; account(15) = 60; commands() = 30; account(15) = 0; "
            + "append('v') = 1",
            "write(\"" + "x".repeat(60) + "\"); append('v') = throws IllegalStateException\n"
            + "commands() = throws IllegalArgumentException; faultPosition() = 0; append('v') = 1");
    }

    private static void commands(Sentences s) {
        s.of("Promise 27");
        s.holds("Carries out the commands in the text buffer, one after the other; if one is refused, none is carried"
            + " out.",
            """
            household(3, 0, 0) = 0; household(1, 9, 0) = 1; say("j1;j0;d2;l0;j0") = 5; queue() = "0"
            householdOf(0, 5) = 1; householdOf(1, 5) = 1
            say("l0;j0;d1;j0") = refused 6 2 3; queue() = "0"; householdOf(0, 5) = 1; account(13) = 2
            say("l0;j0;d1;n1;j0") = 5; queue() = "0"; account(0) = 1; account(13) = 3
            """, """
            household(9, 0, 9) = 0; household(9, 1, 9) = 1; rain(3) = 2; night(4); join(0) = 0; draw(1); collect(25)
            say("j1;d2;p;r9;n2;v;p") = refused 9 15 6; account(7) = 0; account(8) = 1; account(9) = 25; account(11) = 3
            account(0) = 4; queue() = "0"; householdOf(0, 2) = 9; householdOf(1, 2) = 9; householdOf(1, 6) = 0
            quarrels(0, 1) = 0; minutes() = "d4 h0b10"; account(14) = 7; water() = 620; waterAgain() = 620
            """, "household(9, 0, 0) = 0; say(\"" + "v;".repeat(29) + "j1\") = refused 3 1 29; account(13) = 0");
        s.holds("The buffer is empty afterwards, also if an exception is thrown.", """
            say("r1") = 1; account(15) = 0; commands() = throws IllegalArgumentException; faultPosition() = 0
            say("r") = throws IllegalArgumentException; account(15) = 0; say("j0") = refused 3 0; account(15) = 0
            append('r') = 1; append('5') = 2; commands() = 1; account(11) = 5
            """);
        s.holds("Returns the number of commands.", "household(9, 0, 0) = 0; say(\"v\") = 1; say(\"v;v\") = 2; say(\""
            + Scenes.SIXTY + "\") = 30; say(\"n01;n01;r1\") = 3; account(13) = 20");
    }

    private static void commandsThrow(Sentences s) {
        s.of("Promise 27");
        s.holds("Throws `IllegalArgumentException` if the text has a fault", Scenes.fault("", 0), Scenes.fault("v;", 2),
            Scenes.fault("v;x", 2), Scenes.fault("d1;d100", 6), Scenes.fault("l0;j", 4),
            "household(9, 0, 0) = 0; say(\"l0;x\") = throws IllegalArgumentException; "
            + "reason(0) = throws NoSuchElementException");
        s.holds("Throws `UnsupportedOperationException` if a command is refused; the reason is kept", """
            household(9, 0, 0) = 0; household(9, 9, 0) = 1; collect(19)
            say("j2") = refused 3 2 0; say("j0;j0") = refused 4 0 1; say("j0;d5;j0") = refused 6 5 2
            say("j0;d6;x0") = throws IllegalArgumentException; reason(0) = 6; reason(1) = 5; reason(2) = 2
            say("l9") = refused 3 9 0; say("v;l0") = refused 5 0 1; say("d0") = refused 1 0 0
            say("d51") = refused 1 0 0; say("j0;d6") = refused 7 5 1; say("j0;j1;d10;j0") = refused 6 5 3
            say("n0") = refused 1 0 0; say("r9;n51") = refused 1 0 1; say("p") = refused 9 1 0
            say("v;v;v;p") = refused 9 1 3; account(14) = 3; account(0) = 0; account(11) = 2
            """, "say(\"v\") = refused 3 0 0; say(\"r1;v\") = refused 3 0 1; account(11) = 2",
            "household(9, 0, 0) = 0; household(9, 9, 0) = 1\n" + Scenes.DROUGHT
            + "join(0) = 0; draw(3) = 15; night(1)\n".repeat(4) + """
            say("j0;j1;d3;d1") = refused 8 0 3; say("j0;j1;d4") = refused 8 15 2; say("j0;j1;d3") = 3; account(3) = 0
            """);
    }

    private static void faultPosition(Sentences s) {
        s.of("Promise 28");
        s.holds("Returns the fault position of the text of the latest call of commands.", """
            say("v;;") = throws IllegalArgumentException; faultPosition() = 2
            say("x") = throws IllegalArgumentException
            faultPosition() = 0; say("d1") = refused 7 0; faultPosition() = -1
            say("r") = throws IllegalArgumentException
            faultPosition() = 1; write("r1;r2;x"); faultPosition() = 1; commands() = throws IllegalArgumentException
            faultPosition() = 6; commands() = throws IllegalArgumentException; faultPosition() = 0
            """);
        s.holds("Returns the fault position, or -1 if that text had no fault or there was no such call.", """
            faultPosition() = -1; write("x"); faultPosition() = -1; commands() = throws IllegalArgumentException
            faultPosition() = 0; say("r1") = 1; faultPosition() = -1
            """, """
            say("v;x") = throws IllegalArgumentException; faultPosition() = 2; vote() = refused 3 0; faultPosition() = 2
            say("v") = refused 3 0; faultPosition() = -1
            """, Scenes.fault("v;".repeat(30), 60) + "say(\"r1\") = 1; faultPosition() = -1");
    }

    private static void reason(Sentences s) {
        s.of("Promise 29");
        s.holds("Returns a number of the reason that is kept. - `what`: 0 for the reason, 1 for its detail, 2 for the"
            + " index of the command", """
            household(1, 0, 0) = 0; household(1, 9, 0) = 1; say("j0;j1;j1") = refused 4 1 2
            reason(0) = 4; reason(1) = 1; reason(2) = 2
            """, "leather() = refused 9 20; reason(0) = 9; reason(1) = 20; reason(2) = 0");
        s.holds("Throws `IllegalArgumentException` if what is not from 0 to 2", """
            reason(-1) = throws IllegalArgumentException; reason(3) = throws IllegalArgumentException
            leather() = refused 9 20; reason(-1) = throws IllegalArgumentException; reason(0) = 9; reason(2) = 0
            reason(3) = throws IllegalArgumentException; reason(MIN) = throws IllegalArgumentException
            reason(MAX) = throws IllegalArgumentException
            """);
        s.holds("Throws `NoSuchElementException` if nothing was refused", """
            reason(0) = throws NoSuchElementException; reason(1) = throws NoSuchElementException
            reason(2) = throws NoSuchElementException; at(0) = throws IndexOutOfBoundsException
            say("x") = throws IllegalArgumentException; undo() = throws IllegalStateException
            reason(0) = throws NoSuchElementException; rain(10) = refused 1 0; reason(0) = 1; reason(1) = 0
            reason(2) = 0
            rain(9) = 2; undo() = 0; reason(0) = 1
            """);
    }

    private static void line(Sentences s) {
        s.of("Promise 30");
        String five = "household(9, 0, 0) = 0; collect(20); leather() = 0; vote() = 0; join(0) = 0; draw(3) = 30\n";
        s.holds("Writes a minute, in place of the line before.", five + """
            line(0) = 10; character(9) = 'r'; line(1) = 7; character(6) = '0'
            character(7) = throws IndexOutOfBoundsException; line(2) = 8; character(7) = '0'
            character(8) = throws IndexOutOfBoundsException; line(2) = 8; minute(0) = "d0 leather"
            """);
        s.holds("`minute`: its index, from 0 for the oldest one that is kept", five + """
            minute(0) = "d0 leather"; minute(1) = "d0 law0"; minute(4) = "d0 h0b10"; night(5)
            """ + "vote() = 0\n".repeat(15) + """
            account(13) = 20; minute(0) = "d0 leather"; minute(5) = "d5 law0"; minute(19) = "d5 law0"; vote() = 0
            minute(0) = "d0 law0"; minute(4) = "d5 law0"; minute(19) = "d5 law0"; vote() = 0; minute(0) = "d0 h0b10"
            undo(); minute(0) = "d0 law0"; undo(); minute(0) = "d0 leather"
            """);
        s.holds("Returns the length of the line.", five + "line(0) = 10; line(1) = 7; line(2) = 8",
            "household(1, 0, 9) = 0\n" + "night(50)\n".repeat(20) + "vote() = 1; line(0) = 10; "
            + "minute(0) = \"d1000 law1\"");
        s.holds("Throws `IndexOutOfBoundsException` if there is no such minute", """
            line(0) = throws IndexOutOfBoundsException; line(-1) = throws IndexOutOfBoundsException
            """, five + """
            line(5) = throws IndexOutOfBoundsException; line(4) = 8; line(-1) = throws IndexOutOfBoundsException
            line(MIN) = throws IndexOutOfBoundsException; line(MAX) = throws IndexOutOfBoundsException; line(0) = 10
            line(5) = throws IndexOutOfBoundsException; undo(); line(4) = throws IndexOutOfBoundsException
            """, "household(9, 0, 0) = 0\n" + "vote() = 0\n".repeat(21) + """
            line(19) = 7; line(20) = throws IndexOutOfBoundsException; line(-1) = throws IndexOutOfBoundsException
            """);
    }

    private static void character(Sentences s) {
        s.of("Promise 31");
        s.holds("Returns a character of the line, which is empty at first.", """
            character(0) = throws IndexOutOfBoundsException; household(1, 0, 0) = 0; vote() = 2
            character(0) = throws IndexOutOfBoundsException; line(0) = 7; character(0) = 'd'; character(1) = '0'
            character(2) = ' '; character(3) = 'l'; character(4) = 'a'; character(5) = 'w'; character(6) = '2'
            night(10); vote() = 2; character(1) = '0'; line(1) = 8; character(1) = '1'; character(2) = '0'
            """);
        s.holds("`index`: the index, from 0", "collect(20); leather() = 0; line(0) = 10; character(0) = 'd'; "
            + "character(9) = 'r'");
        s.holds("Throws `IndexOutOfBoundsException` if there is no such index", """
            character(0) = throws IndexOutOfBoundsException; character(-1) = throws IndexOutOfBoundsException
            household(1, 0, 0) = 0; vote() = 2; line(0) = 7; character(6) = '2'
            character(7) = throws IndexOutOfBoundsException; character(-1) = throws IndexOutOfBoundsException
            character(MIN) = throws IndexOutOfBoundsException; character(MAX) = throws IndexOutOfBoundsException
            collect(20); leather() = 0; line(1) = 10; character(9) = 'r'
            character(10) = throws IndexOutOfBoundsException
            line(0) = 7; character(7) = throws IndexOutOfBoundsException
            """);
    }

    private static void undo(Sentences s) {
        s.of("Promise 35");
        s.holds("Undoes the latest call that can be undone.", """
            household(9, 0, 9) = 0; household(8, 1, 9) = 1; rain(9) = 2; collect(77); join(0) = 0; join(1) = -1
            draw(3) = 30; leather() = 3
            undo() = 7; account(9) = 77; account(8) = 3; account(13) = 4; undo() = 6; account(3) = 500; account(8) = 0
            account(4) = 0; account(6) = 0; householdOf(0, 5) = 0; householdOf(0, 7) = 0; account(13) = 1; undo() = 5
            account(7) = 0; householdOf(0, 2) = 9; householdOf(1, 2) = 9; householdOf(1, 6) = 0; account(13) = 0
            queue() = "0"; undo() = 4; queue() = ""; undo() = 3; account(9) = 0; undo() = 2; account(11) = 2
            undo() = 1; account(1) = 1; undo() = 0; account(1) = 0
            """, """
            household(9, 0, 0) = 0; join(0) = 0; draw(2) = 20; leave(0) = 0; night(7) = 620; vote() = 0
            say("j0;d1;r5;n1") = 4
            undo() = 6; account(0) = 7; account(11) = 2; account(6) = 2; undo() = 5; account(13) = 2; undo() = 4
            account(0) = 0; account(3) = 480; waterAgain() = 500; householdOf(0, 5) = 2; undo() = 3; queue() = "0"
            """);
        s.holds("Returns the number of calls that can still be undone.", """
            rain(1); undo() = 0; rain(1); rain(1); undo() = 1; rain(3); undo() = 1; undo() = 0; account(11) = 2
            """, "rain(1)\n".repeat(9) + "undo() = 7; rain(2); account(14) = 8; undo() = 7; undo() = 6");
        s.holds("Throws `IllegalStateException` if there is none", """
            undo() = throws IllegalStateException; rain(5) = 2; undo() = 0; undo() = throws IllegalStateException
            account(11) = 2; rain(5) = 2; restore() = throws IllegalStateException; save(); restore() = 0
            undo() = throws IllegalStateException; account(11) = 5
            """, "rain(1)\n".repeat(8) + "rain(7); undo(); undo(); undo(); undo(); undo(); undo(); undo(); "
            + "undo() = 0\n" + """
            undo() = throws IllegalStateException; account(11) = 1
            """);
    }

    private static void save(Sentences s) {
        s.of("Promise 36");
        s.holds("Saves all that can be undone, in place of an earlier snapshot.", """
            household(9, 0, 9) = 0; household(9, 1, 9) = 1; collect(50); rain(9); join(0) = 0; join(1) = -1
            draw(2) = 20
            vote() = 0; leather() = 2; write("j"); line(3) = 7
            save() = 0; night(7) = 999; rain(0); household(4, 9, 9) = 2; household(4, 12, 9) = 3; collect(9)
            join(2) = 0
            household(4, 15, 9) = 4; household(4, 18, 9) = 5; household(4, 6, 9) = 6; vote() = 1; draw(1); leather()
            line(7) = 10
            restore() = 0; account(0) = 0; account(1) = 2; account(2) = 1; account(3) = 480; account(4) = 20
            account(5) = 0; account(6) = 2; account(7) = 1; account(8) = 0; account(9) = 30; account(10) = 0
            account(11) = 9
            account(12) = 0; account(13) = 5; account(14) = 0; account(15) = 1; queue() = "0"; quarrels(0, 1) = 1
            householdOf(0, 2) = 8; householdOf(0, 5) = 2; householdOf(0, 7) = 20; householdOf(1, 6) = 1
            water() = 500; waterAgain() = 500; minutes() = "d0 h0x1,d0 h0b10,d0 h0b10,d0 law0,d0 leather"
            """, """
            save() = 0; night(3) = 560; save() = 3; night(4) = 640; restore() = 3; account(0) = 3; account(3) = 560
            """, "household(9, 0, 0) = 0\n" + Scenes.DROUGHT + """
            save() = 11; rain(9); night(1); account(12) = 0; restore() = 11; account(12) = 1; account(8) = 50
            """);
        s.holds("Returns the day.", "save() = 0; night(1); save() = 1; night(50); save() = 51; undo(); save() = 1");
    }

    private static void restore(Sentences s) {
        s.of("Promise 37");
        s.holds("Restores what was saved; the snapshot is kept.", """
            rain(5); save() = 0; rain(6); night(2); restore() = 0; account(11) = 5; account(0) = 0; rain(7); rain(8)
            restore() = 0; account(11) = 5; rain(9); undo(); restore() = 0; account(11) = 5; restore() = 0
            """, """
            household(3, 4, 5) = 0; save() = 0; undo() = 0; household(9, 19, 0) = 0; restore() = 0
            householdOf(0, 0) = 3
            householdOf(0, 1) = 4; householdOf(0, 2) = 5; join(0) = 0; draw(1) = 10; restore() = 0
            householdOf(0, 5) = 0
            account(4) = 0; queue() = ""
            """, Scenes.meeting("9, 5, 9", "9, 7, 9", "", -1) + """
            save() = 0; join(1) = -1; join(1) = -1; restore() = 0; quarrels(0, 1) = 1; householdOf(1, 6) = 1
            householdOf(0, 2) = 8; account(13) = 1; join(1) = -1; restore() = 0; quarrels(0, 1) = 1; account(13) = 1
            """);
        s.holds("Returns the day.", "night(7); save() = 7; night(1); restore() = 7; restore() = 7; night(1); "
            + "account(0) = 8");
        s.holds("Throws `IllegalStateException` if there is no snapshot", """
            restore() = throws IllegalStateException; rain(1); restore() = throws IllegalStateException; undo() = 0
            save() = 0; restore() = 0
            """);
    }
}
