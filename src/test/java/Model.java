import java.util.ArrayList;
import java.util.Collections;
import java.util.List;
import java.util.NoSuchElementException;

/** The document once more, as plainly as it reads and without thrift: each question simulates on a copy. */
final class Model {
    private static final class Family implements Cloneable {
        int members;
        int place;
        int temper;
        int draws;
        int lost;
        int water;

        Family copy() {
            try {
                return (Family) clone();
            } catch (CloneNotSupportedException e) {
                throw new IllegalStateException(e);
            }
        }
    }

    private static final class World {
        List<Family> families = new ArrayList<>();
        List<Integer> queue = new ArrayList<>();
        List<String> minutes = new ArrayList<>();
        List<String> fights = new ArrayList<>();
        int day;
        int law;
        int coins;
        int rain = 2;
        int well = 500;
        int drawn;
        int spilled;
        int fallen;
        int draws;
        int wear;
        boolean drought;

        World copy() {
            World w = new World();
            for (Family f : families) {
                w.families.add(f.copy());
            }
            w.queue.addAll(queue);
            w.minutes.addAll(minutes);
            w.fights.addAll(fights);
            w.day = day;
            w.law = law;
            w.coins = coins;
            w.rain = rain;
            w.well = well;
            w.drawn = drawn;
            w.spilled = spilled;
            w.fallen = fallen;
            w.draws = draws;
            w.wear = wear;
            w.drought = drought;
            return w;
        }

        Family family(int number) {
            if (number < 0 || number >= families.size()) {
                throw new IndexOutOfBoundsException();
            }
            return families.get(number);
        }

        int byLaw(Family f, int law) {
            if (law == 0) {
                return f.members / 2 + f.members % 2;
            }
            return law == 1 ? 3 : law == 2 ? 4 - f.temper / 3 : 1;
        }

        int turns(Family f) {
            int turns = byLaw(f, law);
            return drought ? turns / 2 + turns % 2 : turns;
        }

        int left(Family f) {
            int left = turns(f) - f.draws - f.lost;
            return left < 0 ? 0 : left;
        }

        int isFor(Family f) {
            int law = 3;
            for (int k = 2; k >= 0; k--) {
                law = byLaw(f, k) >= byLaw(f, law) ? k : law;
            }
            return law;
        }

        int membersFor(int law) {
            int sum = 0;
            for (Family f : families) {
                sum += isFor(f) == law ? f.members : 0;
            }
            return sum;
        }

        int winner(int ahead, int joining) {
            int forAhead = 0;
            int forJoining = 0;
            for (int k = 0; k < families.size(); k++) {
                int toAhead = Math.abs(family(k).place - family(ahead).place);
                int toJoining = Math.abs(family(k).place - family(joining).place);
                if (k == ahead || k == joining) {
                    continue;
                }
                if (toJoining < toAhead) {
                    forJoining++;
                } else {
                    forAhead++;
                }
            }
            return forJoining > forAhead ? joining : ahead;
        }

        boolean near(int one, int other) {
            return one != other && Math.abs(family(one).place - family(other).place) <= 2;
        }

        void minute(String text) {
            minutes.add("d" + day + " " + text);
            if (minutes.size() > 20) {
                minutes.remove(0);
            }
        }

        int join(int number) {
            queue.add(number);
            while (queue.size() > 1) {
                int ahead = queue.get(queue.size() - 2);
                if (!near(ahead, number) || family(ahead).temper + family(number).temper < 10) {
                    break;
                }
                int winner = winner(ahead, number);
                int loser = ahead + number - winner;
                family(loser).lost++;
                family(loser).temper += family(loser).temper < 9 ? 1 : 0;
                family(winner).temper -= family(winner).temper > 0 ? 1 : 0;
                fights.add(winner + " " + loser);
                minute("h" + winner + "x" + loser);
                queue.remove((Integer) loser);
                if (loser == number) {
                    return -1;
                }
            }
            return queue.size() - 1;
        }

        int drawOnce() {
            int number = queue.remove(0);
            Family f = family(number);
            int water = 10 - wear / 10;
            well -= water;
            drawn += water;
            draws++;
            wear = wear < 50 ? wear + 1 : 50;
            f.draws++;
            f.water += water;
            minute("h" + number + "b" + water);
            if (left(f) > 0) {
                queue.add(number);
            }
            return water;
        }

        void night() {
            queue.clear();
            for (Family f : families) {
                f.draws = 0;
                f.lost = 0;
            }
            well += 10 * rain;
            fallen += 10 * rain;
            while (well > 999) {
                well--;
                spilled++;
            }
            day++;
            drought = well < 100;
        }

        int vote() {
            List<Integer> sums = new ArrayList<>();
            for (int k = 0; k < 4; k++) {
                sums.add(membersFor(k));
            }
            law = sums.indexOf(Collections.max(sums));
            queue.removeIf(number -> left(family(number)) == 0);
            minute("law" + law);
            return law;
        }

        int drawAll() {
            int count = 0;
            while (!queue.isEmpty()) {
                drawOnce();
                count++;
            }
            return count;
        }
    }

    private World now = new World();
    private World saved = null;
    private final List<World> before = new ArrayList<>();
    private String buffer = "";
    private String line = "";
    private int fault = -1;
    private int[] reason = null;
    private int command = 0;

    private UnsupportedOperationException refused(int number, int detail) {
        reason = new int[] {number, detail, command};
        return new UnsupportedOperationException();
    }

    private void keep(World world) {
        before.add(world);
        if (before.size() > 8) {
            before.remove(0);
        }
    }

    private void range(int number, int least, int most) {
        if (number < least || number > most) {
            throw refused(1, 0);
        }
    }

    private Family known(int number) {
        if (number < 0 || number >= now.families.size()) {
            throw refused(3, number);
        }
        return now.families.get(number);
    }

    int household(int members, int place, int temper) {
        range(members, 1, 9);
        range(place, 0, 19);
        range(temper, 0, 9);
        if (now.families.size() == 8) {
            throw refused(2, 8);
        }
        keep(now.copy());
        Family f = new Family();
        f.members = members;
        f.place = place;
        f.temper = temper;
        now.families.add(f);
        return now.families.size() - 1;
    }

    /** Carries out what a command may do; the numbers are those of its texts. */
    private int act(char letter, int number) {
        switch (letter) {
            case 'j':
                Family joining = known(number);
                if (now.queue.contains(number)) {
                    throw refused(4, now.queue.indexOf(number));
                }
                if (now.left(joining) == 0) {
                    throw refused(6, joining.draws);
                }
                return now.join(number);
            case 'l':
                known(number);
                int place = now.queue.indexOf(number);
                if (place < 0) {
                    throw refused(5, 0);
                }
                now.queue.remove(place);
                return place;
            case 'd':
                range(number, 1, 50);
                if (number > possible()) {
                    throw refused(7, possible());
                }
                if (bring(number) > now.well) {
                    throw refused(8, now.well);
                }
                int sum = 0;
                for (int k = 0; k < number; k++) {
                    sum += now.drawOnce();
                }
                return sum;
            case 'v':
                if (now.families.isEmpty()) {
                    throw refused(3, 0);
                }
                return now.vote();
            case 'r':
                range(number, 0, 9);
                int was = now.rain;
                now.rain = number;
                return was;
            case 'n':
                range(number, 1, 50);
                for (int k = 0; k < number; k++) {
                    now.night();
                }
                return now.well;
            case 'c':
                range(number, 1, 100);
                if (now.coins + number > 500) {
                    throw refused(2, 500);
                }
                now.coins += number;
                return now.coins;
            default:
                if (now.coins < 20) {
                    throw refused(9, 20 - now.coins);
                }
                now.coins -= 20;
                int wear = now.wear;
                now.wear = 0;
                now.minute("leather");
                return wear;
        }
    }

    /** One of the calls join j, leave l, draw d, vote v, rain r, night n, collect c and leather p. */
    int call(char letter, int number) {
        World was = now.copy();
        int answer = act(letter, number);
        keep(was);
        return answer;
    }

    int householdOf(int household, int what) {
        Family f = now.family(household);
        int[] numbers = {f.members, f.place, f.temper, now.turns(f), now.left(f), f.draws, f.lost, f.water,
            now.queue.indexOf(household)};
        if (what < 0 || what >= numbers.length) {
            throw new IllegalArgumentException();
        }
        return numbers[what];
    }

    int at(int place) {
        if (place < 0 || place >= now.queue.size()) {
            throw new IndexOutOfBoundsException();
        }
        return now.queue.get(place);
    }

    int neighbours(int household) {
        now.family(household);
        int set = 0;
        for (int k = 0; k < now.families.size(); k++) {
            set += now.near(household, k) ? 1 << k : 0;
        }
        return set;
    }

    int quarrels(int winner, int loser) {
        now.family(winner);
        now.family(loser);
        return Collections.frequency(now.fights, winner + " " + loser);
    }

    int wouldWin(int ahead, int joining) {
        now.family(ahead);
        now.family(joining);
        if (ahead == joining) {
            throw new IllegalArgumentException();
        }
        return now.winner(ahead, joining);
    }

    private static void argument(int number, int least, int most) {
        if (number < least || number > most) {
            throw new IllegalArgumentException();
        }
    }

    int turnsBy(int household, int law) {
        Family f = now.family(household);
        argument(law, 0, 3);
        return now.byLaw(f, law);
    }

    int isFor(int household) {
        return now.isFor(now.family(household));
    }

    int membersFor(int law) {
        argument(law, 0, 3);
        return now.membersFor(law);
    }

    int turnIn(int household) {
        now.family(household);
        if (!now.queue.contains(household)) {
            throw new NoSuchElementException();
        }
        World then = now.copy();
        int draws = 0;
        int own = then.family(household).draws;
        while (then.family(household).draws == own) {
            then.drawOnce();
            draws++;
        }
        return draws;
    }

    int possible() {
        return now.copy().drawAll();
    }

    private int bring(int draws) {
        int wear = now.wear;
        int sum = 0;
        for (int k = 0; k < draws; k++) {
            sum += 10 - wear / 10;
            wear = wear == 50 ? 50 : wear + 1;
        }
        return sum;
    }

    int wouldBring(int draws) {
        argument(draws, 0, 60);
        return bring(draws);
    }

    private World later(int nights, int drawn) {
        World then = now.copy();
        for (int k = 0; k < nights; k++) {
            then.well = then.well < drawn ? 0 : then.well - drawn;
            then.night();
        }
        return then;
    }

    int wellIn(int nights, int drawn) {
        argument(nights, 0, 100);
        argument(drawn, 0, 999);
        return later(nights, drawn).well;
    }

    int droughtIn(int drawn) {
        argument(drawn, 0, 999);
        for (int nights = 0; nights <= 100; nights++) {
            if (later(nights, drawn).drought) {
                return nights;
            }
        }
        throw new NoSuchElementException();
    }

    int water() {
        return now.well + now.drawn + now.spilled;
    }

    int waterAgain() {
        return 500 + now.fallen;
    }

    int append(char character) {
        if (buffer.length() == 60) {
            throw new IllegalStateException();
        }
        buffer += character;
        return buffer.length();
    }

    private static final String COMMAND = "([jlr][0-9]|[dn][0-9]{1,2}|[vp])";

    /** Whether some text that has no fault begins so. */
    private static boolean continues(String text) {
        return text.matches("(" + COMMAND + ";)*([jlrdn]|" + COMMAND + ")?");
    }

    int commands() {
        String text = buffer;
        buffer = "";
        fault = -1;
        if (!text.matches(COMMAND + "(;" + COMMAND + ")*")) {
            fault = 0;
            while (fault < text.length() && continues(text.substring(0, fault + 1))) {
                fault++;
            }
            throw new IllegalArgumentException();
        }
        World was = now.copy();
        String[] parts = text.split(";");
        for (command = 0; command < parts.length; command++) {
            String part = parts[command];
            try {
                act(part.charAt(0), part.length() == 1 ? 0 : Integer.parseInt(part.substring(1)));
            } catch (UnsupportedOperationException e) {
                now = was;
                command = 0;
                throw e;
            }
        }
        command = 0;
        keep(was);
        return parts.length;
    }

    int faultPosition() {
        return fault;
    }

    int reason(int what) {
        argument(what, 0, 2);
        if (reason == null) {
            throw new NoSuchElementException();
        }
        return reason[what];
    }

    int line(int minute) {
        if (minute < 0 || minute >= now.minutes.size()) {
            throw new IndexOutOfBoundsException();
        }
        line = now.minutes.get(minute);
        return line.length();
    }

    char character(int index) {
        if (index < 0 || index >= line.length()) {
            throw new IndexOutOfBoundsException();
        }
        return line.charAt(index);
    }

    float meanTemper() {
        if (now.families.isEmpty()) {
            throw new ArithmeticException();
        }
        int sum = 0;
        for (Family f : now.families) {
            sum += f.temper;
        }
        return (float) sum / (float) now.families.size();
    }

    double share(int household) {
        Family f = now.family(household);
        if (now.drawn == 0) {
            throw new ArithmeticException();
        }
        return (double) f.water / (double) now.drawn;
    }

    int account(int what) {
        int[] accounts = {now.day, now.families.size(), now.queue.size(), now.well, now.drawn, now.spilled, now.draws,
            now.fights.size(), now.wear, now.coins, now.law, now.rain, now.drought ? 1 : 0, now.minutes.size(),
            before.size(), buffer.length()};
        argument(what, 0, accounts.length - 1);
        return accounts[what];
    }

    int undo() {
        if (before.isEmpty()) {
            throw new IllegalStateException();
        }
        now = before.remove(before.size() - 1);
        return before.size();
    }

    int save() {
        saved = now.copy();
        return now.day;
    }

    int restore() {
        if (saved == null) {
            throw new IllegalStateException();
        }
        now = saved.copy();
        before.clear();
        return now.day;
    }
}
