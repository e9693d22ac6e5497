import java.util.ArrayList;
import java.util.List;

/** What the tests have in common: checks that are counted, and helpers that speak to a pump. */
final class Checks {
    interface Call {
        long run();
    }

    private int made = 0;
    private int wrong = 0;
    private String part = "";

    void part(String name) {
        part = name;
    }

    void is(String what, long due, long got) {
        made++;
        if (got != due) {
            tell(what + " answered " + got + ", due is " + due);
        }
    }

    void isNumber(String what, double due, double got) {
        made++;
        if (got != due) {
            tell(what + " answered " + got + ", due is " + due);
        }
    }

    void isText(String what, String due, String got) {
        made++;
        if (!due.equals(got)) {
            tell(what + " answered\n" + got + "\n  due is\n" + due);
        }
    }

    /** The call must throw just this class, and nothing that the pump tells of itself may change. */
    void isThrown(String what, Class<?> due, Pump pump, Call call) {
        String before = all(pump);
        isThrownOnly(what, due, call);
        isText(what + ": the state behind it", before, all(pump));
    }

    void isThrownOnly(String what, Class<?> due, Call call) {
        made++;
        String got;
        try {
            got = Long.toString(call.run());
        } catch (RuntimeException e) {
            if (e.getClass() == due) {
                return;
            }
            got = e.getClass().getName();
        }
        tell(what + " answered " + got + ", due is that it throws " + due.getName());
    }

    /** A refusal: UnsupportedOperationException, an unchanged state, and the reason that is kept. */
    void isRefused(String what, Pump pump, int reason, int detail, Call call) {
        isThrown(what, UnsupportedOperationException.class, pump, call);
        isReason(what, pump, reason, detail, 0);
    }

    void isReason(String what, Pump pump, int reason, int detail, int command) {
        is(what + ": the reason", reason, pump.reason(0));
        is(what + ": its detail", detail, pump.reason(1));
        is(what + ": its command", command, pump.reason(2));
    }

    void tell(String fault) {
        wrong++;
        if (wrong <= 40) {
            System.out.println(part + ": " + fault);
        }
    }

    void end() {
        System.out.println(made + " checks, " + wrong + " wrong");
        if (wrong != 0 || made == 0) {
            System.exit(1);
        }
    }

    static void write(Pump pump, String text) {
        for (int k = 0; k < text.length(); k++) {
            pump.append(text.charAt(k));
        }
    }

    static int say(Pump pump, String text) {
        write(pump, text);
        return pump.commands();
    }

    static String minute(Pump pump, int minute) {
        return text(pump, pump.line(minute));
    }

    static String text(Pump pump, int length) {
        StringBuilder text = new StringBuilder();
        for (int k = 0; k < length; k++) {
            text.append(pump.character(k));
        }
        return text.toString();
    }

    /** All that can be undone, as a text, but for the minutes' own words: asking for these would change the line. */
    static String all(Pump pump) {
        StringBuilder text = new StringBuilder("accounts");
        for (int what = 0; what <= 15; what++) {
            text.append(' ').append(pump.account(what));
        }
        text.append("\nqueue");
        for (int place = 0; place < pump.account(2); place++) {
            text.append(' ').append(pump.at(place));
        }
        int households = pump.account(1);
        for (int k = 0; k < households; k++) {
            text.append("\nhousehold ").append(k).append(':');
            for (int what = 0; what <= 8; what++) {
                text.append(' ').append(pump.householdOf(k, what));
            }
            text.append(" won");
            for (int other = 0; other < households; other++) {
                text.append(' ').append(pump.quarrels(k, other));
            }
        }
        text.append("\nwater ").append(pump.water()).append(' ').append(pump.waterAgain());
        return text.toString();
    }

    static String minutes(Pump pump) {
        List<String> lines = new ArrayList<>();
        for (int k = 0; k < pump.account(13); k++) {
            lines.add(minute(pump, k));
        }
        return String.join(",", lines);
    }

    static Pump pumpOf(int[][] households) {
        Pump p = new Pump();
        for (int[] h : households) {
            p.household(h[0], h[1], h[2]);
        }
        return p;
    }

    /** A pump without rain whose well has less than 100, on a day that has not been one of drought. */
    static Pump dryPump(int[][] households) {
        Pump p = pumpOf(households);
        p.rain(0);
        while (p.account(3) >= 100) {
            p.night(1);
            for (int k = 0; k < households.length; k++) {
                p.join(k);
                while (p.account(2) > 0 && p.account(3) >= 100) {
                    p.draw(1);
                }
            }
        }
        return p;
    }
}
