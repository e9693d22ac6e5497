import java.util.NoSuchElementException;

/**
 * A village pump: households queue for water and quarrel about it, a parliament makes the law by which turns are
 * given, and a scribe keeps the minutes.
 */
public final class PumpParliament {
    private static final int MOST_HOUSEHOLDS = 8;
    private static final int MOST_MEMBERS = 9;
    private static final int LAST_PLACE = 19;
    private static final int MOST_TEMPER = 9;
    private static final int NEIGHBOUR_DISTANCE = 2;
    private static final int QUARREL_TEMPER = 10;

    private static final int LAWS = 4;

    private static final int FIRST_WATER = 500;
    private static final int MOST_WATER = 999;
    private static final int DROUGHT_BELOW = 100;
    private static final int WATER_OF_DRAW = 10;
    private static final int WATER_OF_RAIN = 10;
    private static final int MOST_RAIN = 9;
    private static final int FIRST_RAIN = 2;
    private static final int MOST_WEAR = 50;
    private static final int WEAR_STEP = 10;

    private static final int MOST_DRAWS = 50;
    private static final int MOST_DRAWS_TOLD = 60;
    private static final int MOST_NIGHTS = 50;
    private static final int MOST_NIGHTS_TOLD = 100;
    private static final int MOST_COINS = 500;
    private static final int MOST_COINS_AT_ONCE = 100;
    private static final int LEATHER_PRICE = 20;

    private static final int MOST_MINUTES = 20;
    private static final int MINUTE_OF_DRAW = 0;
    private static final int MINUTE_OF_QUARREL = 1;
    private static final int MINUTE_OF_VOTE = 2;
    private static final int MINUTE_OF_LEATHER = 3;

    private static final int MOST_CHARACTERS = 60;
    private static final int MOST_CHANGES = 8;

    private static final int OUT_OF_RANGE = 1;
    private static final int NO_MORE_ROOM = 2;
    private static final int NO_SUCH_HOUSEHOLD = 3;
    private static final int WAITS = 4;
    private static final int WAITS_NOT = 5;
    private static final int NO_TURNS_LEFT = 6;
    private static final int TOO_FEW_DRAWS = 7;
    private static final int TOO_LITTLE_WATER = 8;
    private static final int TOO_FEW_COINS = 9;

    private static final int NONE = -1;

    private final State now;
    private final State beforeText;
    private final State snapshot;
    private boolean hasSnapshot;
    private final History history;
    private final Refusal refusal;
    private final CommandText text;
    private int latestFault;
    private final StringBuilder written;

    public PumpParliament() {
        now = new State();
        beforeText = new State();
        snapshot = new State();
        history = new History();
        refusal = new Refusal();
        text = new CommandText();
        latestFault = NONE;
        written = new StringBuilder();
    }

    public int household(int members, int place, int temper) throws UnsupportedOperationException {
        if (now.refusesHousehold(members, place, temper, refusal)) {
            throw new UnsupportedOperationException("the household is refused");
        }
        history.keep(now);
        return now.lane.settle(members, place, temper);
    }

    public int join(int household) throws UnsupportedOperationException {
        if (now.refusesJoin(household, refusal)) {
            throw new UnsupportedOperationException("joining is refused");
        }
        history.keep(now);
        return now.letJoin(household);
    }

    public int leave(int household) throws UnsupportedOperationException {
        if (now.refusesLeave(household, refusal)) {
            throw new UnsupportedOperationException("leaving is refused");
        }
        history.keep(now);
        return now.letLeave(household);
    }

    public int draw(int draws) throws UnsupportedOperationException {
        if (now.refusesDraws(draws, refusal)) {
            throw new UnsupportedOperationException("drawing is refused");
        }
        history.keep(now);
        return now.letDraw(draws);
    }

    public int vote() throws UnsupportedOperationException {
        if (now.refusesVote(refusal)) {
            throw new UnsupportedOperationException("the vote is refused");
        }
        history.keep(now);
        return now.letVote();
    }

    public int rain(int rain) throws UnsupportedOperationException {
        if (now.refusesRain(rain, refusal)) {
            throw new UnsupportedOperationException("the rain is refused");
        }
        history.keep(now);
        return now.well.changeRain(rain);
    }

    public int night(int nights) throws UnsupportedOperationException {
        if (now.refusesNights(nights, refusal)) {
            throw new UnsupportedOperationException("the nights are refused");
        }
        history.keep(now);
        return now.letNightsPass(nights);
    }

    public int collect(int coins) throws UnsupportedOperationException {
        if (now.refusesCoins(coins, refusal)) {
            throw new UnsupportedOperationException("the coins are refused");
        }
        history.keep(now);
        now.coins += coins;
        return now.coins;
    }

    public int leather() throws UnsupportedOperationException {
        if (now.refusesLeather(refusal)) {
            throw new UnsupportedOperationException("the leather is refused");
        }
        history.keep(now);
        return now.changeLeather();
    }

    public int householdOf(int household, int what) throws IndexOutOfBoundsException, IllegalArgumentException {
        if (!now.lane.has(household)) {
            throw new IndexOutOfBoundsException("there is no such household");
        }
        switch (what) {
            case 0:
                return now.lane.members[household];
            case 1:
                return now.lane.places[household];
            case 2:
                return now.lane.tempers[household];
            case 3:
                return now.turnsOf(household);
            case 4:
                return now.turnsLeft(household);
            case 5:
                return now.lane.draws[household];
            case 6:
                return now.lane.lostTurns[household];
            case 7:
                return now.lane.fetched[household];
            case 8:
                return now.queue.placeOf(household);
            default:
                throw new IllegalArgumentException("there is no such number of a household");
        }
    }

    public int at(int place) throws IndexOutOfBoundsException {
        if (!now.queue.hasPlace(place)) {
            throw new IndexOutOfBoundsException("there is no such place in the queue");
        }
        return now.queue.waiting[place];
    }

    public int neighbours(int household) throws IndexOutOfBoundsException {
        if (!now.lane.has(household)) {
            throw new IndexOutOfBoundsException("there is no such household");
        }
        return now.lane.neighbourSet(household);
    }

    public int quarrels(int winner, int loser) throws IndexOutOfBoundsException {
        if (!now.lane.has(winner) || !now.lane.has(loser)) {
            throw new IndexOutOfBoundsException("there is no such household");
        }
        return now.lane.wins[winner][loser];
    }

    public int wouldWin(int ahead, int joining) throws IndexOutOfBoundsException, IllegalArgumentException {
        if (!now.lane.has(ahead) || !now.lane.has(joining)) {
            throw new IndexOutOfBoundsException("there is no such household");
        }
        if (ahead == joining) {
            throw new IllegalArgumentException("nobody quarrels with itself");
        }
        return now.lane.winnerOf(ahead, joining);
    }

    public int turnsBy(int household, int law) throws IndexOutOfBoundsException, IllegalArgumentException {
        if (!now.lane.has(household)) {
            throw new IndexOutOfBoundsException("there is no such household");
        }
        if (!isWithin(law, 0, LAWS - 1)) {
            throw new IllegalArgumentException("there is no such law");
        }
        return now.lane.lawfulTurns(household, law);
    }

    public int isFor(int household) throws IndexOutOfBoundsException {
        if (!now.lane.has(household)) {
            throw new IndexOutOfBoundsException("there is no such household");
        }
        return now.lane.favouriteLaw(household);
    }

    public int membersFor(int law) throws IllegalArgumentException {
        if (!isWithin(law, 0, LAWS - 1)) {
            throw new IllegalArgumentException("there is no such law");
        }
        return now.lane.membersBehind(law);
    }

    public int turnIn(int household) throws IndexOutOfBoundsException, NoSuchElementException {
        if (!now.lane.has(household)) {
            throw new IndexOutOfBoundsException("there is no such household");
        }
        int place = now.queue.placeOf(household);
        if (place == NONE) {
            throw new NoSuchElementException("the household does not wait");
        }
        return place + 1;
    }

    public int possible() {
        return now.drawsInQueue();
    }

    public int wouldBring(int draws) throws IllegalArgumentException {
        if (!isWithin(draws, 0, MOST_DRAWS_TOLD)) {
            throw new IllegalArgumentException("the number of draws is out of range");
        }
        return now.well.waterOf(draws);
    }

    public int wellIn(int nights, int drawn) throws IllegalArgumentException {
        if (!isWithin(nights, 0, MOST_NIGHTS_TOLD) || !isWithin(drawn, 0, MOST_WATER)) {
            throw new IllegalArgumentException("a number is out of range");
        }
        return now.well.levelAfter(nights, drawn);
    }

    public int droughtIn(int drawn) throws IllegalArgumentException, NoSuchElementException {
        if (!isWithin(drawn, 0, MOST_WATER)) {
            throw new IllegalArgumentException("the water is out of range");
        }
        int nights = now.well.nightsToDrought(drawn);
        if (nights == NONE) {
            throw new NoSuchElementException("there would be no drought");
        }
        return nights;
    }

    public int water() {
        return now.well.level + now.well.drawn + now.well.spilled;
    }

    public int waterAgain() {
        return FIRST_WATER + now.well.fallen;
    }

    public int append(char character) throws IllegalStateException {
        if (text.isFull()) {
            throw new IllegalStateException("the buffer is full");
        }
        text.add(character);
        return text.length;
    }

    public int commands() throws IllegalArgumentException, UnsupportedOperationException {
        latestFault = text.read();
        text.empty();
        if (latestFault != NONE) {
            throw new IllegalArgumentException("the text has a fault");
        }
        beforeText.copyFrom(now);
        boolean allowed = true;
        for (int k = 0; k < text.commandCount && allowed; k++) {
            refusal.runningCommand = k;
            allowed = carryOut(text.letters[k], text.numbers[k]);
        }
        refusal.runningCommand = 0;
        if (!allowed) {
            now.copyFrom(beforeText);
            throw new UnsupportedOperationException("a command is refused");
        }
        history.keep(beforeText);
        return text.commandCount;
    }

    public int faultPosition() {
        return latestFault;
    }

    public int reason(int what) throws IllegalArgumentException, NoSuchElementException {
        if (!isWithin(what, 0, 2)) {
            throw new IllegalArgumentException("there is no such number of a reason");
        }
        if (refusal.reason == 0) {
            throw new NoSuchElementException("nothing was refused");
        }
        if (what == 0) {
            return refusal.reason;
        }
        return what == 1 ? refusal.detail : refusal.command;
    }

    public int line(int minute) throws IndexOutOfBoundsException {
        if (!now.minutes.has(minute)) {
            throw new IndexOutOfBoundsException("there is no such minute");
        }
        now.minutes.write(minute, written);
        return written.length();
    }

    public char character(int index) throws IndexOutOfBoundsException {
        if (!isWithin(index, 0, written.length() - 1)) {
            throw new IndexOutOfBoundsException("there is no such index in the line");
        }
        return written.charAt(index);
    }

    public float meanTemper() throws ArithmeticException {
        if (now.lane.size == 0) {
            throw new ArithmeticException("there are no households");
        }
        return (float) now.lane.temperSum() / (float) now.lane.size;
    }

    public double share(int household) throws IndexOutOfBoundsException, ArithmeticException {
        if (!now.lane.has(household)) {
            throw new IndexOutOfBoundsException("there is no such household");
        }
        if (now.well.drawn == 0) {
            throw new ArithmeticException("nothing was drawn");
        }
        return (double) now.lane.fetched[household] / (double) now.well.drawn;
    }

    public int account(int what) throws IllegalArgumentException {
        switch (what) {
            case 0:
                return now.day;
            case 1:
                return now.lane.size;
            case 2:
                return now.queue.length;
            case 3:
                return now.well.level;
            case 4:
                return now.well.drawn;
            case 5:
                return now.well.spilled;
            case 6:
                return now.well.draws;
            case 7:
                return now.lane.fights;
            case 8:
                return now.well.wear;
            case 9:
                return now.coins;
            case 10:
                return now.law;
            case 11:
                return now.well.rainfall;
            case 12:
                return now.well.drought ? 1 : 0;
            case 13:
                return now.minutes.size;
            case 14:
                return history.size;
            case 15:
                return text.length;
            default:
                throw new IllegalArgumentException("there is no such account");
        }
    }

    public int undo() throws IllegalStateException {
        if (history.size == 0) {
            throw new IllegalStateException("there is nothing to undo");
        }
        history.takeBack(now);
        return history.size;
    }

    public int save() {
        snapshot.copyFrom(now);
        hasSnapshot = true;
        return now.day;
    }

    public int restore() throws IllegalStateException {
        if (!hasSnapshot) {
            throw new IllegalStateException("there is no snapshot");
        }
        now.copyFrom(snapshot);
        history.forget();
        return now.day;
    }

    private static boolean isWithin(int number, int least, int most) {
        return number >= least && number <= most;
    }

    /** Tells whether the command was allowed; it changes nothing if it was not. */
    private boolean carryOut(char letter, int number) {
        switch (letter) {
            case 'j':
                if (now.refusesJoin(number, refusal)) {
                    return false;
                }
                now.letJoin(number);
                return true;
            case 'l':
                if (now.refusesLeave(number, refusal)) {
                    return false;
                }
                now.letLeave(number);
                return true;
            case 'd':
                if (now.refusesDraws(number, refusal)) {
                    return false;
                }
                now.letDraw(number);
                return true;
            case 'n':
                if (now.refusesNights(number, refusal)) {
                    return false;
                }
                now.letNightsPass(number);
                return true;
            case 'r':
                if (now.refusesRain(number, refusal)) {
                    return false;
                }
                now.well.changeRain(number);
                return true;
            case 'v':
                if (now.refusesVote(refusal)) {
                    return false;
                }
                now.letVote();
                return true;
            default:
                if (now.refusesLeather(refusal)) {
                    return false;
                }
                now.changeLeather();
                return true;
        }
    }

    /** Why something was refused the latest time; the reason 0 stands for "nothing was". */
    private static final class Refusal {
        private int reason;
        private int detail;
        private int command;
        private int runningCommand;

        /** Answers true always, so that a check can end with it. */
        private boolean because(int newReason, int newDetail) {
            reason = newReason;
            detail = newDetail;
            command = runningCommand;
            return true;
        }
    }

    /** All that can be undone and saved. */
    private static final class State {
        private final Lane lane = new Lane();
        private final Queue queue = new Queue();
        private final Well well = new Well();
        private final Minutes minutes = new Minutes();
        private int day;
        private int law;
        private int coins;

        private void copyFrom(State other) {
            lane.copyFrom(other.lane);
            queue.copyFrom(other.queue);
            well.copyFrom(other.well);
            minutes.copyFrom(other.minutes);
            day = other.day;
            law = other.law;
            coins = other.coins;
        }

        private int turnsOf(int household) {
            int turns = lane.lawfulTurns(household, law);
            return well.drought ? (turns + 1) / 2 : turns;
        }

        private int turnsLeft(int household) {
            return Math.max(0, turnsOf(household) - lane.draws[household] - lane.lostTurns[household]);
        }

        private int drawsInQueue() {
            int draws = 0;
            for (int place = 0; place < queue.length; place++) {
                draws += turnsLeft(queue.waiting[place]);
            }
            return draws;
        }

        private boolean refusesHousehold(int members, int place, int temper, Refusal refusal) {
            if (!isWithin(members, 1, MOST_MEMBERS) || !isWithin(place, 0, LAST_PLACE)
                    || !isWithin(temper, 0, MOST_TEMPER)) {
                return refusal.because(OUT_OF_RANGE, 0);
            }
            return lane.size >= MOST_HOUSEHOLDS && refusal.because(NO_MORE_ROOM, MOST_HOUSEHOLDS);
        }

        private boolean refusesJoin(int household, Refusal refusal) {
            if (!lane.has(household)) {
                return refusal.because(NO_SUCH_HOUSEHOLD, household);
            }
            int place = queue.placeOf(household);
            if (place != NONE) {
                return refusal.because(WAITS, place);
            }
            return turnsLeft(household) == 0 && refusal.because(NO_TURNS_LEFT, lane.draws[household]);
        }

        /** Answers the place in the queue, or NONE if a quarrel was lost. */
        private int letJoin(int household) {
            for (int place = queue.length - 1; place >= 0; place--) {
                int ahead = queue.waiting[place];
                if (!lane.wouldQuarrel(ahead, household)) {
                    break;
                }
                if (lane.winnerOf(ahead, household) == ahead) {
                    quarrel(ahead, household);
                    return NONE;
                }
                quarrel(household, ahead);
                queue.removePlace(place);
            }
            queue.addLast(household);
            return queue.length - 1;
        }

        private void quarrel(int winner, int loser) {
            lane.settleQuarrel(winner, loser);
            minutes.note(MINUTE_OF_QUARREL, day, winner, loser);
        }

        private boolean refusesLeave(int household, Refusal refusal) {
            if (!lane.has(household)) {
                return refusal.because(NO_SUCH_HOUSEHOLD, household);
            }
            return queue.placeOf(household) == NONE && refusal.because(WAITS_NOT, 0);
        }

        private int letLeave(int household) {
            int place = queue.placeOf(household);
            queue.removePlace(place);
            return place;
        }

        private boolean refusesDraws(int draws, Refusal refusal) {
            if (!isWithin(draws, 1, MOST_DRAWS)) {
                return refusal.because(OUT_OF_RANGE, 0);
            }
            int mostDraws = drawsInQueue();
            if (draws > mostDraws) {
                return refusal.because(TOO_FEW_DRAWS, mostDraws);
            }
            return well.waterOf(draws) > well.level && refusal.because(TOO_LITTLE_WATER, well.level);
        }

        private int letDraw(int draws) {
            int brought = 0;
            for (int k = 0; k < draws && queue.length > 0; k++) {
                brought += drawFirst();
            }
            return brought;
        }

        private int drawFirst() {
            int household = queue.waiting[0];
            int brought = well.drawOnce();
            lane.draws[household]++;
            lane.fetched[household] += brought;
            minutes.note(MINUTE_OF_DRAW, day, household, brought);
            queue.removePlace(0);
            if (turnsLeft(household) > 0) {
                queue.addLast(household);
            }
            return brought;
        }

        private boolean refusesVote(Refusal refusal) {
            return lane.size == 0 && refusal.because(NO_SUCH_HOUSEHOLD, 0);
        }

        private int letVote() {
            law = lane.lawOfMost();
            // from the end, so that a removal moves only places that were looked at
            for (int place = queue.length - 1; place >= 0; place--) {
                if (turnsLeft(queue.waiting[place]) == 0) {
                    queue.removePlace(place);
                }
            }
            minutes.note(MINUTE_OF_VOTE, day, law, 0);
            return law;
        }

        private boolean refusesRain(int rain, Refusal refusal) {
            return !isWithin(rain, 0, MOST_RAIN) && refusal.because(OUT_OF_RANGE, 0);
        }

        private boolean refusesNights(int nights, Refusal refusal) {
            return !isWithin(nights, 1, MOST_NIGHTS) && refusal.because(OUT_OF_RANGE, 0);
        }

        private int letNightsPass(int nights) {
            queue.length = 0;
            lane.forgetDay();
            for (int k = 0; k < nights; k++) {
                well.passNight();
            }
            day += nights;
            return well.level;
        }

        private boolean refusesCoins(int more, Refusal refusal) {
            if (!isWithin(more, 1, MOST_COINS_AT_ONCE)) {
                return refusal.because(OUT_OF_RANGE, 0);
            }
            return coins + more > MOST_COINS && refusal.because(NO_MORE_ROOM, MOST_COINS);
        }

        private boolean refusesLeather(Refusal refusal) {
            return coins < LEATHER_PRICE && refusal.because(TOO_FEW_COINS, LEATHER_PRICE - coins);
        }

        private int changeLeather() {
            coins -= LEATHER_PRICE;
            minutes.note(MINUTE_OF_LEATHER, day, 0, 0);
            return well.renewLeather();
        }
    }

    /** The households, what they did, and what they would vote for. */
    private static final class Lane {
        private int size;
        private int fights;
        private final int[] members = new int[MOST_HOUSEHOLDS];
        private final int[] places = new int[MOST_HOUSEHOLDS];
        private final int[] tempers = new int[MOST_HOUSEHOLDS];
        private final int[] draws = new int[MOST_HOUSEHOLDS];
        private final int[] lostTurns = new int[MOST_HOUSEHOLDS];
        private final int[] fetched = new int[MOST_HOUSEHOLDS];
        private final int[][] wins = new int[MOST_HOUSEHOLDS][MOST_HOUSEHOLDS];

        private void copyFrom(Lane other) {
            size = other.size;
            fights = other.fights;
            for (int k = 0; k < MOST_HOUSEHOLDS; k++) {
                members[k] = other.members[k];
                places[k] = other.places[k];
                tempers[k] = other.tempers[k];
                draws[k] = other.draws[k];
                lostTurns[k] = other.lostTurns[k];
                fetched[k] = other.fetched[k];
                System.arraycopy(other.wins[k], 0, wins[k], 0, MOST_HOUSEHOLDS);
            }
        }

        private boolean has(int household) {
            return household >= 0 && household < size;
        }

        /** Answers the number of the new household, or NONE if there is no room. */
        private int settle(int newMembers, int place, int temper) {
            if (size >= MOST_HOUSEHOLDS) {
                return NONE;
            }
            members[size] = newMembers;
            places[size] = place;
            tempers[size] = temper;
            size++;
            return size - 1;
        }

        private int distance(int one, int other) {
            return Math.abs(places[one] - places[other]);
        }

        private int neighbourSet(int household) {
            int set = 0;
            for (int k = 0; k < size; k++) {
                if (k != household && distance(household, k) <= NEIGHBOUR_DISTANCE) {
                    set |= 1 << k;
                }
            }
            return set;
        }

        private boolean wouldQuarrel(int ahead, int joining) {
            return distance(ahead, joining) <= NEIGHBOUR_DISTANCE
                    && tempers[ahead] + tempers[joining] >= QUARREL_TEMPER;
        }

        private int winnerOf(int ahead, int joining) {
            int votesMore = 0;
            for (int k = 0; k < size; k++) {
                if (k != ahead && k != joining) {
                    votesMore += distance(k, ahead) <= distance(k, joining) ? 1 : -1;
                }
            }
            return votesMore >= 0 ? ahead : joining;
        }

        private void settleQuarrel(int winner, int loser) {
            lostTurns[loser]++;
            tempers[loser] = Math.min(MOST_TEMPER, tempers[loser] + 1);
            tempers[winner] = Math.max(0, tempers[winner] - 1);
            wins[winner][loser]++;
            fights++;
        }

        private int lawfulTurns(int household, int law) {
            switch (law) {
                case 0:
                    return (members[household] + 1) / 2;
                case 1:
                    return 3;
                case 2:
                    return 4 - tempers[household] / 3;
                default:
                    return 1;
            }
        }

        private int favouriteLaw(int household) {
            int best = 0;
            for (int law = 1; law < LAWS; law++) {
                if (lawfulTurns(household, law) > lawfulTurns(household, best)) {
                    best = law;
                }
            }
            return best;
        }

        private int membersBehind(int law) {
            int sum = 0;
            for (int k = 0; k < size; k++) {
                if (favouriteLaw(k) == law) {
                    sum += members[k];
                }
            }
            return sum;
        }

        private int lawOfMost() {
            int best = 0;
            int most = membersBehind(best);
            for (int law = 1; law < LAWS; law++) {
                int behind = membersBehind(law);
                if (behind > most) {
                    best = law;
                    most = behind;
                }
            }
            return best;
        }

        private int temperSum() {
            int sum = 0;
            for (int k = 0; k < size; k++) {
                sum += tempers[k];
            }
            return sum;
        }

        private void forgetDay() {
            for (int k = 0; k < size; k++) {
                draws[k] = 0;
                lostTurns[k] = 0;
            }
        }
    }

    /** The households that wait, the first one at the place 0. */
    private static final class Queue {
        private int length;
        private final int[] waiting = new int[MOST_HOUSEHOLDS];

        private void copyFrom(Queue other) {
            length = other.length;
            System.arraycopy(other.waiting, 0, waiting, 0, MOST_HOUSEHOLDS);
        }

        private boolean hasPlace(int place) {
            return place >= 0 && place < length;
        }

        private int placeOf(int household) {
            for (int place = 0; place < length; place++) {
                if (waiting[place] == household) {
                    return place;
                }
            }
            return NONE;
        }

        private void addLast(int household) {
            if (length < MOST_HOUSEHOLDS) {
                waiting[length] = household;
                length++;
            }
        }

        private void removePlace(int place) {
            if (hasPlace(place)) {
                length--;
                for (int k = place; k < length; k++) {
                    waiting[k] = waiting[k + 1];
                }
            }
        }
    }

    /** The well with its pump, and the rain that fills it. */
    private static final class Well {
        private int level = FIRST_WATER;
        private int drawn;
        private int spilled;
        private int fallen;
        private int rainfall = FIRST_RAIN;
        private int wear;
        private int draws;
        private boolean drought;

        private void copyFrom(Well other) {
            level = other.level;
            drawn = other.drawn;
            spilled = other.spilled;
            fallen = other.fallen;
            rainfall = other.rainfall;
            wear = other.wear;
            draws = other.draws;
            drought = other.drought;
        }

        private static int waterAtWear(int wear) {
            return WATER_OF_DRAW - wear / WEAR_STEP;
        }

        private int waterOf(int moreDraws) {
            int sum = 0;
            for (int k = 0; k < moreDraws; k++) {
                sum += waterAtWear(Math.min(MOST_WEAR, wear + k));
            }
            return sum;
        }

        private int drawOnce() {
            int brought = waterAtWear(wear);
            level -= brought;
            drawn += brought;
            draws++;
            wear = Math.min(MOST_WEAR, wear + 1);
            return brought;
        }

        private int renewLeather() {
            int wearBefore = wear;
            wear = 0;
            return wearBefore;
        }

        private int changeRain(int rain) {
            int rainBefore = rainfall;
            rainfall = rain;
            return rainBefore;
        }

        private void passNight() {
            int rain = WATER_OF_RAIN * rainfall;
            fallen += rain;
            level += rain;
            if (level > MOST_WATER) {
                spilled += level - MOST_WATER;
                level = MOST_WATER;
            }
            drought = level < DROUGHT_BELOW;
        }

        private int levelAfterNight(int levelBefore, int drawnByDay) {
            int left = Math.max(0, levelBefore - drawnByDay);
            return Math.min(MOST_WATER, left + WATER_OF_RAIN * rainfall);
        }

        private int levelAfter(int nights, int drawnByDay) {
            int then = level;
            for (int k = 0; k < nights; k++) {
                then = levelAfterNight(then, drawnByDay);
            }
            return then;
        }

        /** Answers NONE if there would be no drought within the nights that are told. */
        private int nightsToDrought(int drawnByDay) {
            if (drought) {
                return 0;
            }
            int then = level;
            for (int nights = 1; nights <= MOST_NIGHTS_TOLD; nights++) {
                then = levelAfterNight(then, drawnByDay);
                if (then < DROUGHT_BELOW) {
                    return nights;
                }
            }
            return NONE;
        }
    }

    /** The latest minutes, in a ring: the oldest one stands where the next one goes once the ring is full. */
    private static final class Minutes {
        private int size;
        private int next;
        private final int[] kinds = new int[MOST_MINUTES];
        private final int[] days = new int[MOST_MINUTES];
        private final int[] firsts = new int[MOST_MINUTES];
        private final int[] seconds = new int[MOST_MINUTES];

        private void copyFrom(Minutes other) {
            size = other.size;
            next = other.next;
            System.arraycopy(other.kinds, 0, kinds, 0, MOST_MINUTES);
            System.arraycopy(other.days, 0, days, 0, MOST_MINUTES);
            System.arraycopy(other.firsts, 0, firsts, 0, MOST_MINUTES);
            System.arraycopy(other.seconds, 0, seconds, 0, MOST_MINUTES);
        }

        private boolean has(int minute) {
            return minute >= 0 && minute < size;
        }

        private void note(int kind, int day, int first, int second) {
            kinds[next] = kind;
            days[next] = day;
            firsts[next] = first;
            seconds[next] = second;
            next = (next + 1) % MOST_MINUTES;
            size = Math.min(MOST_MINUTES, size + 1);
        }

        private void write(int minute, StringBuilder out) {
            int k = (next + MOST_MINUTES - size + minute) % MOST_MINUTES;
            out.setLength(0);
            out.append('d').append(days[k]).append(' ');
            switch (kinds[k]) {
                case MINUTE_OF_DRAW:
                    out.append('h').append(firsts[k]).append('b').append(seconds[k]);
                    break;
                case MINUTE_OF_QUARREL:
                    out.append('h').append(firsts[k]).append('x').append(seconds[k]);
                    break;
                case MINUTE_OF_VOTE:
                    out.append("law").append(firsts[k]);
                    break;
                default:
                    out.append("leather");
                    break;
            }
        }
    }

    /** What there was before each of the latest changes, in a ring. */
    private static final class History {
        private int size;
        private int next;
        private final State[] kept = new State[MOST_CHANGES];

        private History() {
            for (int k = 0; k < MOST_CHANGES; k++) {
                kept[k] = new State();
            }
        }

        private void keep(State before) {
            kept[next].copyFrom(before);
            next = (next + 1) % MOST_CHANGES;
            size = Math.min(MOST_CHANGES, size + 1);
        }

        private void takeBack(State state) {
            if (size > 0) {
                next = (next + MOST_CHANGES - 1) % MOST_CHANGES;
                size--;
                state.copyFrom(kept[next]);
            }
        }

        private void forget() {
            size = 0;
        }
    }

    /** The text buffer, and the commands that were read from it the latest time. */
    private static final class CommandText {
        private static final int AT_LETTER = 0;
        private static final int AT_ONLY_DIGIT = 1;
        private static final int AT_FIRST_DIGIT = 2;
        private static final int AT_SECOND_DIGIT = 3;
        private static final int AT_END = 4;

        private int length;
        private final char[] characters = new char[MOST_CHARACTERS];
        private int commandCount;
        private final char[] letters = new char[MOST_CHARACTERS];
        private final int[] numbers = new int[MOST_CHARACTERS];

        private boolean isFull() {
            return length >= MOST_CHARACTERS;
        }

        private void add(char character) {
            if (!isFull()) {
                characters[length] = character;
                length++;
            }
        }

        private void empty() {
            length = 0;
        }

        /** Reads the commands and answers the fault position, or NONE. */
        private int read() {
            commandCount = 0;
            int expected = AT_LETTER;
            for (int k = 0; k < length; k++) {
                int following = expectedBehind(expected, characters[k]);
                if (following == NONE) {
                    return k;
                }
                take(expected, characters[k]);
                expected = following;
            }
            return expected == AT_SECOND_DIGIT || expected == AT_END ? NONE : length;
        }

        /** Answers NONE if the character cannot stand there. */
        private static int expectedBehind(int expected, char character) {
            switch (expected) {
                case AT_LETTER:
                    return expectedBehindLetter(character);
                case AT_ONLY_DIGIT:
                    return isDigit(character) ? AT_END : NONE;
                case AT_FIRST_DIGIT:
                    return isDigit(character) ? AT_SECOND_DIGIT : NONE;
                case AT_SECOND_DIGIT:
                    if (isDigit(character)) {
                        return AT_END;
                    }
                    return character == ';' ? AT_LETTER : NONE;
                default:
                    return character == ';' ? AT_LETTER : NONE;
            }
        }

        private static int expectedBehindLetter(char letter) {
            switch (letter) {
                case 'j':
                case 'l':
                case 'r':
                    return AT_ONLY_DIGIT;
                case 'd':
                case 'n':
                    return AT_FIRST_DIGIT;
                case 'v':
                case 'p':
                    return AT_END;
                default:
                    return NONE;
            }
        }

        private void take(int expected, char character) {
            if (expected == AT_LETTER && commandCount < MOST_CHARACTERS) {
                letters[commandCount] = character;
                numbers[commandCount] = 0;
                commandCount++;
            } else if (isDigit(character) && commandCount > 0) {
                numbers[commandCount - 1] = numbers[commandCount - 1] * 10 + (character - '0');
            }
        }

        private static boolean isDigit(char character) {
            return character >= '0' && character <= '9';
        }
    }
}
