import java.util.ArrayList;
import java.util.List;
import java.util.function.ToIntFunction;

/**
 * A pump to which a test may speak as long as it likes. The document promises nothing of an object behind its 512th
 * call; so, when that is reached, a new object takes its place, on which all calls that may change something are
 * repeated first. Questions are not repeated, since they change nothing.
 */
final class Pump {
    private static final int MOST_CALLS = 512;

    private final List<ToIntFunction<PumpParliament>> changes = new ArrayList<>();
    private boolean endsWithLine = false;
    private PumpParliament pump = new PumpParliament();
    private int calls = 0;

    /** How many calls would have to be repeated: a test must keep well below 512 of them. */
    int changes() {
        return changes.size();
    }

    /** The object, for one call more. */
    private PumpParliament asked() {
        if (calls >= MOST_CALLS) {
            renew();
        }
        calls++;
        return pump;
    }

    private void renew() {
        if (changes.size() >= MOST_CALLS) {
            throw new IllegalStateException("a test makes more than 512 changes");
        }
        pump = new PumpParliament();
        for (ToIntFunction<PumpParliament> change : changes) {
            try {
                change.applyAsInt(pump);
            } catch (RuntimeException e) {
                // it threw the first time, too, and the test has seen that
            }
        }
        calls = changes.size();
    }

    /** What throws is repeated as well, since it may have kept a reason or emptied the buffer. */
    private int change(ToIntFunction<PumpParliament> call) {
        PumpParliament now = asked();
        changes.add(call);
        endsWithLine = false;
        return call.applyAsInt(now);
    }

    int household(int members, int place, int temper) {
        return change(p -> p.household(members, place, temper));
    }

    int join(int household) {
        return change(p -> p.join(household));
    }

    int leave(int household) {
        return change(p -> p.leave(household));
    }

    int draw(int draws) {
        return change(p -> p.draw(draws));
    }

    int vote() {
        return change(PumpParliament::vote);
    }

    int rain(int rain) {
        return change(p -> p.rain(rain));
    }

    int night(int nights) {
        return change(p -> p.night(nights));
    }

    int collect(int coins) {
        return change(p -> p.collect(coins));
    }

    int leather() {
        return change(PumpParliament::leather);
    }

    int append(char character) {
        return change(p -> p.append(character));
    }

    int commands() {
        return change(PumpParliament::commands);
    }

    int undo() {
        return change(PumpParliament::undo);
    }

    int save() {
        return change(PumpParliament::save);
    }

    int restore() {
        return change(PumpParliament::restore);
    }

    /** Of several lines that are written one after the other only the last one stays. */
    int line(int minute) {
        int length = asked().line(minute);
        if (endsWithLine) {
            changes.remove(changes.size() - 1);
        }
        changes.add(p -> p.line(minute));
        endsWithLine = true;
        return length;
    }

    int householdOf(int household, int what) {
        return asked().householdOf(household, what);
    }

    int at(int place) {
        return asked().at(place);
    }

    int neighbours(int household) {
        return asked().neighbours(household);
    }

    int quarrels(int winner, int loser) {
        return asked().quarrels(winner, loser);
    }

    int wouldWin(int ahead, int joining) {
        return asked().wouldWin(ahead, joining);
    }

    int turnsBy(int household, int law) {
        return asked().turnsBy(household, law);
    }

    int isFor(int household) {
        return asked().isFor(household);
    }

    int membersFor(int law) {
        return asked().membersFor(law);
    }

    int turnIn(int household) {
        return asked().turnIn(household);
    }

    int possible() {
        return asked().possible();
    }

    int wouldBring(int draws) {
        return asked().wouldBring(draws);
    }

    int wellIn(int nights, int drawn) {
        return asked().wellIn(nights, drawn);
    }

    int droughtIn(int drawn) {
        return asked().droughtIn(drawn);
    }

    int water() {
        return asked().water();
    }

    int waterAgain() {
        return asked().waterAgain();
    }

    int faultPosition() {
        return asked().faultPosition();
    }

    int reason(int what) {
        return asked().reason(what);
    }

    char character(int index) {
        return asked().character(index);
    }

    float meanTemper() {
        return asked().meanTemper();
    }

    double share(int household) {
        return asked().share(household);
    }

    int account(int what) {
        return asked().account(what);
    }
}
