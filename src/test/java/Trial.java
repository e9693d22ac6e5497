import java.util.function.LongSupplier;

/** One pump that is asked by the names of its methods; it tells answers and exceptions as texts. */
final class Trial {
    /** The document promises nothing of later calls, so that no test may rest on them. */
    private static final int MOST_CALLS = 512;

    private final PumpParliament pump = new PumpParliament();
    private int calls = 0;

    boolean isOverused() {
        return calls > MOST_CALLS;
    }

    String ask(String name, int... n) {
        calls++;
        try {
            return answer(name, n);
        } catch (RuntimeException e) {
            return "throws " + nameOf(e);
        }
    }

    /** What the machine throws by itself gets another name than what the class throws with its own words. */
    private static String nameOf(RuntimeException e) {
        StackTraceElement[] trace = e.getStackTrace();
        boolean own = trace.length > 0 && trace[0].getClassName().startsWith("PumpParliament")
            && !"/ by zero".equals(e.getMessage());
        return (own ? "" : "by the machine ") + e.getClass().getSimpleName();
    }

    private String answer(String name, int[] n) {
        return switch (name) {
            case "meanTemper" -> Double.toString(pump.meanTemper());
            case "share" -> Double.toString(pump.share(n[0]));
            default -> Long.toString(whole(name, n).getAsLong());
        };
    }

    private LongSupplier whole(String name, int[] n) {
        return switch (name) {
            case "household" -> () -> pump.household(n[0], n[1], n[2]);
            case "join" -> () -> pump.join(n[0]);
            case "leave" -> () -> pump.leave(n[0]);
            case "draw" -> () -> pump.draw(n[0]);
            case "vote" -> pump::vote;
            case "rain" -> () -> pump.rain(n[0]);
            case "night" -> () -> pump.night(n[0]);
            case "collect" -> () -> pump.collect(n[0]);
            case "leather" -> pump::leather;
            case "append" -> () -> pump.append((char) n[0]);
            case "commands" -> pump::commands;
            case "undo" -> pump::undo;
            case "save" -> pump::save;
            case "restore" -> pump::restore;
            default -> question(name, n);
        };
    }

    private LongSupplier question(String name, int[] n) {
        return switch (name) {
            case "householdOf" -> () -> pump.householdOf(n[0], n[1]);
            case "at" -> () -> pump.at(n[0]);
            case "neighbours" -> () -> pump.neighbours(n[0]);
            case "quarrels" -> () -> pump.quarrels(n[0], n[1]);
            case "wouldWin" -> () -> pump.wouldWin(n[0], n[1]);
            case "turnsBy" -> () -> pump.turnsBy(n[0], n[1]);
            case "isFor" -> () -> pump.isFor(n[0]);
            case "membersFor" -> () -> pump.membersFor(n[0]);
            case "turnIn" -> () -> pump.turnIn(n[0]);
            case "possible" -> pump::possible;
            case "wouldBring" -> () -> pump.wouldBring(n[0]);
            case "wellIn" -> () -> pump.wellIn(n[0], n[1]);
            case "droughtIn" -> () -> pump.droughtIn(n[0]);
            case "water" -> pump::water;
            case "waterAgain" -> pump::waterAgain;
            case "faultPosition" -> pump::faultPosition;
            case "reason" -> () -> pump.reason(n[0]);
            case "line" -> () -> pump.line(n[0]);
            case "character" -> () -> pump.character(n[0]);
            case "account" -> () -> pump.account(n[0]);
            default -> throw new IllegalArgumentException("a row of a test has the unknown name " + name);
        };
    }

    private int number(String name, int... n) {
        String answer = ask(name, n);
        return answer.startsWith("throws ") ? 0 : Integer.parseInt(answer);
    }

    /** The answers for 0 up to the last number, with blanks between them. */
    private String answers(String name, int last) {
        StringBuilder text = new StringBuilder(name).append(':');
        for (int k = 0; k <= last; k++) {
            text.append(' ').append(ask(name, k));
        }
        return text.toString();
    }

    String queue() {
        StringBuilder text = new StringBuilder("\"");
        int length = number("account", 2);
        for (int place = 0; place < length; place++) {
            text.append(place == 0 ? "" : " ").append(ask("at", place));
        }
        return text.append('"').toString();
    }

    String minute(int minute) {
        String length = ask("line", minute);
        return length.startsWith("throws ") ? length : "\"" + written(Integer.parseInt(length)) + "\"";
    }

    private String written(int length) {
        StringBuilder text = new StringBuilder();
        for (int k = 0; k < length; k++) {
            text.append((char) number("character", k));
        }
        return text.toString();
    }

    String minutes() {
        StringBuilder text = new StringBuilder("\"");
        int kept = number("account", 13);
        for (int k = 0; k < kept; k++) {
            text.append(k == 0 ? "" : ",").append(written(number("line", k)));
        }
        return text.append('"').toString();
    }

    /** The line as it stands: asking for its characters writes nothing. */
    String line() {
        StringBuilder text = new StringBuilder();
        String answer = ask("character", 0);
        for (int k = 1; !answer.startsWith("throws ") && k <= MOST_CALLS; k++) {
            text.append((char) Integer.parseInt(answer));
            answer = ask("character", k);
        }
        return text.append(' ').append(answer).toString();
    }

    String reason() {
        return answers("reason", 2);
    }

    /** All that can be undone but for the minutes, which need many calls. */
    String state() {
        StringBuilder text = new StringBuilder(answers("account", 13)).append('\n').append(queue());
        int households = number("account", 1);
        for (int k = 0; k < households; k++) {
            text.append("\nhousehold ").append(k).append(':');
            for (int what = 0; what <= 8; what++) {
                text.append(' ').append(ask("householdOf", k, what));
            }
            for (int other = 0; other < households; other++) {
                text.append(' ').append(ask("quarrels", k, other));
            }
        }
        return text.append('\n').append(ask("water")).append(' ').append(ask("waterAgain")).toString();
    }

    String told() {
        return answers("isFor", 7) + answers("neighbours", 7) + answers("share", 7) + answers("membersFor", 3)
            + ask("meanTemper") + ' ' + ask("possible") + ' ' + ask("wouldBring", 60) + ' ' + ask("wellIn", 100, 9)
            + ' ' + ask("droughtIn", 25);
    }
}
