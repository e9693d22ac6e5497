/** Long runs of calls, of which the pump and the model must answer each alike. A run has fewer than 512 changes. */
public final class ModelTest {
    private static final int RUNS = 1000;
    private static final int STEPS = 512;
    private static final int MOST_CHANGES = 470;
    private static final int KINDS = 37;

    private static final Checks due = new Checks();
    private static long seed;

    public static void main(String[] args) {
        for (int run = 0; run < RUNS; run++) {
            due.part("run " + run);
            seed = 7919L * run + 17;
            play(run % 6);
        }
        due.end();
    }

    /** The same numbers each time: a test that fails must fail again. */
    private static int chance(int bound) {
        seed = seed * 6364136223846793005L + 1442695040888963407L;
        return (int) ((seed >>> 33) % bound);
    }

    private static int near(int least, int most) {
        int kind = chance(60);
        if (kind == 0) {
            return least - 1 - chance(3);
        }
        if (kind == 1) {
            return most + 1 + chance(3);
        }
        if (kind == 2) {
            return chance(2) == 0 ? Integer.MIN_VALUE : Integer.MAX_VALUE;
        }
        return least + chance(most - least + 1);
    }

    private static void play(int style) {
        Pump pump = new Pump();
        Model model = new Model();
        for (int k = 0; k < style + chance(4); k++) {
            int members = 1 + chance(9);
            int place = style % 2 == 0 ? chance(20) : 8 + chance(5);
            int temper = style % 3 == 0 ? chance(10) : 5 + chance(5);
            due.is("household", model.household(members, place, temper), pump.household(members, place, temper));
        }
        if (style >= 3) {
            due.is("rain", model.call('r', style - 3), pump.rain(style - 3));
        }
        for (int k = 0; k < STEPS && pump.changes() < MOST_CHANGES; k++) {
            step(pump, model, k);
        }
        compare(pump, model);
    }

    private static void step(Pump pump, Model model, int number) {
        int kind = chance(100);
        if (kind < 25) {
            act(pump, model, 2, near(0, 7), 0, 0, ' ');
        } else if (kind < 40) {
            act(pump, model, 4, 1 + chance(4), 0, 0, ' ');
        } else if (kind < 44) {
            act(pump, model, 4, chance(3) == 0 ? near(1, 50) : model.possible(), 0, 0, ' ');
        } else if (kind < 48) {
            act(pump, model, 7, 1 + chance(2), 0, 0, ' ');
        } else if (kind < 58) {
            speak(pump, model);
        } else {
            any(pump, model);
        }
        if (number % 8 == 0) {
            compare(pump, model);
        }
    }

    private static void any(Pump pump, Model model) {
        int kind = 1 + chance(KINDS - 1);
        int[][] ranges = {{0, 0}, {1, 9}, {0, 7}, {0, 7}, {1, 50}, {0, 0}, {0, 9}, {1, 50}, {1, 100}, {0, 0}, {0, 7},
            {0, 7}, {0, 7}, {0, 7}, {0, 7}, {0, 7}, {0, 7}, {0, 3}, {0, 7}, {0, 0}, {0, 60}, {0, 100}, {0, 999}, {0, 0},
            {0, 0}, {0, 0}, {0, 0}, {0, 0}, {0, 2}, {0, 19}, {0, 12}, {0, 0}, {0, 7}, {0, 15}, {0, 0}, {0, 0}, {0, 0}};
        int first = near(ranges[kind][0], ranges[kind][1]);
        int second = kind == 1 ? near(0, 19) : kind == 10 ? near(0, 8) : kind == 15 ? near(0, 3)
            : kind == 21 ? near(0, 999) : near(0, 7);
        if (kind == 21 || kind == 22) {
            second = chance(2) == 0 ? chance(60) : second;
            first = kind == 22 && chance(2) == 0 ? chance(60) : first;
        }
        boolean rare = kind == 7 || kind == 35 || kind == 36;
        if (!rare || chance(3) == 0) {
            act(pump, model, kind, first, second, near(0, 9), (char) chance(70000));
        }
    }

    private static void speak(Pump pump, Model model) {
        StringBuilder text = new StringBuilder();
        int parts = 1 + chance(6);
        for (int k = 0; k < parts; k++) {
            text.append(k == 0 ? "" : ";");
            switch (chance(9)) {
                case 0, 1, 2, 3 -> text.append('j').append(chance(8));
                case 4 -> text.append('l').append(chance(8));
                case 5, 6 -> text.append('d').append(1 + chance(3));
                case 7 -> text.append(chance(2) == 0 ? "v" : chance(4) == 0 ? "n1" : "d07");
                default -> text.append(chance(2) == 0 ? "p" : "r" + chance(10));
            }
        }
        if (chance(4) == 0) {
            text.setCharAt(chance(text.length()), "jldnrvp;0123456789x".charAt(chance(19)));
        }
        if (chance(12) == 0) {
            text.setLength(chance(text.length()));
        }
        for (int k = 0; k < text.length(); k++) {
            act(pump, model, 25, 0, 0, 0, text.charAt(k));
        }
        act(pump, model, 26, 0, 0, 0, ' ');
        act(pump, model, 27, 0, 0, 0, ' ');
    }

    private static void act(Pump pump, Model model, int kind, int first, int second, int third, char sign) {
        String got = answer(() -> ofPump(pump, kind, first, second, third, sign));
        String wanted = answer(() -> ofModel(model, kind, first, second, third, sign));
        due.isText("call " + kind + " (" + first + ", " + second + ", " + third + ", " + (int) sign + ")", wanted, got);
    }

    private static String answer(Checks.Call call) {
        try {
            return Long.toString(call.run());
        } catch (RuntimeException e) {
            return e.getClass().getName();
        }
    }

    private static long ofPump(Pump p, int kind, int a, int b, int c, char sign) {
        return switch (kind) {
            case 1 -> p.household(a, b, c);
            case 2 -> p.join(a);
            case 3 -> p.leave(a);
            case 4 -> p.draw(a);
            case 5 -> p.vote();
            case 6 -> p.rain(a);
            case 7 -> p.night(a);
            case 8 -> p.collect(a);
            case 9 -> p.leather();
            case 10 -> p.householdOf(a, b);
            case 11 -> p.at(a);
            case 12 -> p.neighbours(a);
            case 13 -> p.quarrels(a, b);
            case 14 -> p.wouldWin(a, b);
            case 15 -> p.turnsBy(a, b);
            case 16 -> p.isFor(a);
            case 17 -> p.membersFor(a);
            case 18 -> p.turnIn(a);
            case 19 -> p.possible();
            case 20 -> p.wouldBring(a);
            case 21 -> p.wellIn(a, b);
            case 22 -> p.droughtIn(a);
            case 23 -> p.water();
            case 24 -> p.waterAgain();
            case 25 -> p.append(sign);
            case 26 -> p.commands();
            case 27 -> p.faultPosition();
            case 28 -> p.reason(a);
            case 29 -> p.line(a);
            case 30 -> p.character(a);
            case 31 -> Float.floatToIntBits(p.meanTemper());
            case 32 -> Double.doubleToLongBits(p.share(a));
            case 33 -> p.account(a);
            case 34 -> p.undo();
            case 35 -> p.save();
            default -> p.restore();
        };
    }

    private static long ofModel(Model m, int kind, int a, int b, int c, char sign) {
        return switch (kind) {
            case 1 -> m.household(a, b, c);
            case 2 -> m.call('j', a);
            case 3 -> m.call('l', a);
            case 4 -> m.call('d', a);
            case 5 -> m.call('v', 0);
            case 6 -> m.call('r', a);
            case 7 -> m.call('n', a);
            case 8 -> m.call('c', a);
            case 9 -> m.call('p', 0);
            case 10 -> m.householdOf(a, b);
            case 11 -> m.at(a);
            case 12 -> m.neighbours(a);
            case 13 -> m.quarrels(a, b);
            case 14 -> m.wouldWin(a, b);
            case 15 -> m.turnsBy(a, b);
            case 16 -> m.isFor(a);
            case 17 -> m.membersFor(a);
            case 18 -> m.turnIn(a);
            case 19 -> m.possible();
            case 20 -> m.wouldBring(a);
            case 21 -> m.wellIn(a, b);
            case 22 -> m.droughtIn(a);
            case 23 -> m.water();
            case 24 -> m.waterAgain();
            case 25 -> m.append(sign);
            case 26 -> m.commands();
            case 27 -> m.faultPosition();
            case 28 -> m.reason(a);
            case 29 -> m.line(a);
            case 30 -> m.character(a);
            case 31 -> Float.floatToIntBits(m.meanTemper());
            case 32 -> Double.doubleToLongBits(m.share(a));
            case 33 -> m.account(a);
            case 34 -> m.undo();
            case 35 -> m.save();
            default -> m.restore();
        };
    }

    private static void compare(Pump pump, Model model) {
        for (int what = 0; what <= 15; what++) {
            due.is("account " + what, model.account(what), pump.account(what));
        }
        for (int place = 0; place < model.account(2); place++) {
            due.is("at " + place, model.at(place), pump.at(place));
        }
        int households = model.account(1);
        for (int k = 0; k < households; k++) {
            for (int what = 0; what <= 8; what++) {
                due.is("number " + what + " of " + k, model.householdOf(k, what), pump.householdOf(k, what));
            }
            for (int other = 0; other < households; other++) {
                due.is("quarrels", model.quarrels(k, other), pump.quarrels(k, other));
            }
        }
        for (int minute = 0; minute < model.account(13); minute++) {
            int length = model.line(minute);
            due.is("line " + minute, length, pump.line(minute));
            for (int k = 0; k < length; k++) {
                due.is("character " + k, model.character(k), pump.character(k));
            }
        }
        due.is("waterAgain", pump.water(), pump.waterAgain());
        due.is("water", model.waterAgain(), pump.water());
    }
}
