/** Beginnings of runs that several tests have in common. */
final class Scenes {
    /** Eight calm households of nine members: nobody quarrels, each has five turns. */
    static final String EIGHT = """
        household(9, 0, 0); household(9, 3, 0); household(9, 6, 0); household(9, 9, 0)
        household(9, 12, 0); household(9, 15, 0); household(9, 18, 0); household(9, 19, 0)
        """;

    static final String ALL_JOIN = """
        join(0) = 0; join(1) = 1; join(2) = 2; join(3) = 3; join(4) = 4; join(5) = 5; join(6) = 6; join(7) = 7
        """;

    /** Ten days without rain: the well has 100 then, and the leather is worn by 50. Household 0 has nine members. */
    static final String TEN_DRY_DAYS = "rain(0) = 2\n" + "join(0); draw(5); night(1)\n".repeat(10);

    /** One more such day: the well has 75 then, and there is a drought on the day 11. */
    static final String DROUGHT = TEN_DRY_DAYS + "join(0); draw(5) = 25; night(1) = 75\n";

    /** A day 0 with eight households on which 381 of water are drawn, so that there are 119 on the day 1. */
    static final String WELL_OF_119 = EIGHT + "rain(0); collect(60)\n" + ALL_JOIN + """
        draw(19) = 181; leather() = 19; draw(10) = 100; leather() = 10; draw(10) = 100; leather() = 10
        night(1) = 119
        """;

    /** A day 0 with eight households on which 400 of water are drawn. */
    static final String WELL_OF_100 = EIGHT + "rain(0); collect(60)\n" + ALL_JOIN + """
        draw(10) = 100; leather() = 10; draw(10) = 100; leather() = 10; draw(10) = 100; leather() = 10
        draw(10) = 100
        """;

    /** Thirty households' commands in a text of 60 characters, the longest one that there is. */
    static final String SIXTY = "v;".repeat(29) + "j0";

    private Scenes() {
    }

    /** A household ahead, one that joins behind it, and the answer of that; others vote. */
    static String meeting(String ahead, String joining, String others, int answer) {
        return "household(" + ahead + ") = 0; household(" + joining + ") = 1\n" + others
            + "\njoin(0) = 0; join(1) = " + answer + "\n";
    }

    /** A text with a fault on a pump with one household. */
    static String fault(String text, int position) {
        return "household(9, 0, 0) = 0; say(\"" + text + "\") = throws IllegalArgumentException\n"
            + "faultPosition() = " + position + "; account(15) = 0\n"
            + "reason(0) = throws NoSuchElementException\n";
    }
}
