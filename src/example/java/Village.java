/** A first day at a village pump, as README.md tells it. */
public final class Village {
    public static void main(String[] args) {
        PumpParliament pump = new PumpParliament();
        System.out.println("households " + pump.household(4, 3, 6) + " and " + pump.household(2, 4, 5));
        System.out.println("places " + pump.join(0) + " and " + pump.join(1));
        System.out.println("water drawn: " + pump.draw(1));
        try {
            pump.draw(9);
        } catch (UnsupportedOperationException e) {
            System.out.println("refused for the reason " + pump.reason(0) + ", its detail is " + pump.reason(1));
        }
        System.out.println("the well in 3 nights: " + pump.wellIn(3, 100));

        pump.save();
        System.out.println("commands: " + say(pump, "r0;d1;n2;v"));
        System.out.println("day " + pump.account(0) + ", law " + pump.account(10) + ", well " + pump.account(3));
        for (int k = 0; k < pump.account(13); k++) {
            System.out.println(minute(pump, k));
        }
        try {
            say(pump, "d1;x");
        } catch (IllegalArgumentException e) {
            System.out.println("the fault is at " + pump.faultPosition());
        }

        System.out.println("still to undo: " + pump.undo());
        System.out.println("day " + pump.account(0) + ", rain " + pump.account(11));
        System.out.println("restored, day " + pump.restore() + ", still to undo: " + pump.account(14));
    }

    private static int say(PumpParliament pump, String text) {
        for (char character : text.toCharArray()) {
            pump.append(character);
        }
        return pump.commands();
    }

    private static String minute(PumpParliament pump, int minute) {
        StringBuilder text = new StringBuilder();
        int length = pump.line(minute);
        for (int k = 0; k < length; k++) {
            text.append(pump.character(k));
        }
        return text.toString();
    }
}
