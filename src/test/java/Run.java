import java.util.ArrayList;
import java.util.LinkedHashMap;
import java.util.List;
import java.util.Map;

/**
 * A run of calls on a new pump, told in rows as the document tells its examples: "join(0) = 0", with ";" or a new line
 * between them. Behind "=" stands what is due: a number, a quotient, 'a sign' (of character also without the quotes),
 * "a text", "throws X", or "refused R D C" for a refusal with its reason, its detail and its command (0 if it is not
 * told). A row without "=" must only answer. MIN and MAX are the least and the greatest int.
 *
 * Besides the methods there are say("text"), which appends it and calls commands; write("text"), which only appends;
 * minute(k), minutes() and queue(), which answer texts.
 *
 * Behind each row that throws, all that the pump can tell must be as before it, but for what the document says; which
 * reason a row "throws UnsupportedOperationException" keeps, other rows may ask.
 */
final class Run {
    private record Row(String name, int[] numbers, String due, String told) {
        String play(Trial trial) {
            return switch (name) {
                case "minute" -> trial.minute(numbers[0]);
                case "minutes" -> trial.minutes();
                case "queue" -> trial.queue();
                default -> trial.ask(name, numbers);
            };
        }

        boolean isThrown() {
            return due != null && (due.startsWith("throws ") || due.startsWith("refused "));
        }
    }

    private final Checks checks;
    private final List<Row> rows = new ArrayList<>();
    private int viewedRows = -1;
    private Map<String, String> view;

    Run(Checks checks, String text) {
        this.checks = checks;
        for (String part : parts(text.replace('\n', ';'), ';')) {
            if (!part.isBlank()) {
                read(part.strip());
            }
        }
    }

    /** Splits at a sign, but not within quotes. */
    private static List<String> parts(String text, char sign) {
        List<String> parts = new ArrayList<>();
        int begin = 0;
        char quote = 0;
        for (int k = 0; k < text.length(); k++) {
            char c = text.charAt(k);
            if (quote != 0) {
                quote = c == quote ? 0 : quote;
            } else if (c == '"' || c == '\'') {
                quote = c;
            } else if (c == sign) {
                parts.add(text.substring(begin, k));
                begin = k + 1;
            }
        }
        parts.add(text.substring(begin));
        return parts;
    }

    private void read(String told) {
        List<String> sides = parts(told, '=');
        String call = sides.get(0).strip();
        int open = call.indexOf('(');
        if (open < 0 || !call.endsWith(")") || sides.size() > 2) {
            throw new IllegalArgumentException("this is no row of a test: " + told);
        }
        String name = call.substring(0, open);
        String inside = call.substring(open + 1, call.length() - 1);
        String due = sides.size() == 2 ? sides.get(1).strip() : null;
        if (name.equals("say") || name.equals("write")) {
            for (char c : inside.substring(1, inside.length() - 1).toCharArray()) {
                rows.add(new Row("append", new int[] {c}, null, told));
            }
            if (name.equals("say")) {
                rows.add(new Row("commands", new int[0], due, told));
            }
            return;
        }
        rows.add(new Row(name, numbers(inside), due == null ? null : plain(name, due), told));
    }

    private static int[] numbers(String inside) {
        if (inside.isBlank()) {
            return new int[0];
        }
        List<String> words = parts(inside, ',');
        int[] numbers = new int[words.size()];
        for (int k = 0; k < numbers.length; k++) {
            numbers[k] = number(words.get(k).strip());
        }
        return numbers;
    }

    private static int number(String word) {
        if (word.startsWith("'")) {
            return word.charAt(1);
        }
        return switch (word) {
            case "MIN" -> Integer.MIN_VALUE;
            case "MAX" -> Integer.MAX_VALUE;
            default -> Integer.parseInt(word);
        };
    }

    /** What is due, in the words of Trial. */
    private static String plain(String name, String due) {
        if (due.startsWith("'")) {
            return Integer.toString(number(due));
        }
        if (name.equals("character") && due.length() == 1) {
            return Integer.toString(due.charAt(0));
        }
        boolean single = name.equals("meanTemper");
        if (due.startsWith("throws ") || !single && !name.equals("share")) {
            return due;
        }
        String[] words = due.split(" / ");
        int above = Integer.parseInt(words[0]);
        int below = words.length > 1 ? Integer.parseInt(words[1]) : 1;
        return Double.toString(single ? (float) above / (float) below : (double) above / (double) below);
    }

    int size() {
        return rows.size();
    }

    void play() {
        Trial trial = new Trial();
        boolean someDue = false;
        for (int k = 0; k < rows.size(); k++) {
            Row row = rows.get(k);
            String got = row.play(trial);
            someDue |= row.due != null;
            String due = row.due == null ? "an answer" : row.due;
            if (row.due == null) {
                checks.isText("row " + k + ", " + row.told, due, got.startsWith("throws ") ? got : due);
            } else if (due.startsWith("refused ")) {
                checks.isText("row " + k + ", " + row.told, "throws UnsupportedOperationException", got);
            } else {
                checks.isText("row " + k + ", " + row.told, due, got);
            }
            if (row.isThrown()) {
                looksAsBefore(k);
            }
        }
        checks.is("a run has something that is due: 1", 1, someDue ? 1 : 0);
        checks.is("a run has at most 512 calls: 1", 1, trial.isOverused() ? 0 : 1);
    }

    private void looksAsBefore(int number) {
        Row row = rows.get(number);
        Map<String, String> before = new LinkedHashMap<>(viewBehind(number));
        Map<String, String> after = viewBehind(number + 1);
        if (row.due.startsWith("refused ")) {
            String[] words = row.due.split(" ");
            String command = words.length > 3 ? words[3] : "0";
            before.put("the reason", String.join(" ", "reason:", words[1], words[2], command));
        } else if (row.due.equals("throws UnsupportedOperationException")) {
            before.put("the reason", after.get("the reason"));
        }
        if (row.name.equals("commands")) {
            before.put("the buffer", "0 throws IllegalArgumentException 0");
            before.put("the fault position", row.due.startsWith("refused ") ? "-1" : after.get("the fault position"));
        }
        for (String part : before.keySet()) {
            checks.isText("row " + number + ", " + row.told + ": behind it, " + part, before.get(part),
                after.get(part));
        }
        checks.is("as many parts", before.size(), after.size());
    }

    /** Looking uses up calls and writes lines, so that each look is at a pump of its own, with the same calls. */
    private Trial replay(int count) {
        Trial trial = new Trial();
        for (int k = 0; k < count; k++) {
            rows.get(k).play(trial);
        }
        return trial;
    }

    private String look(Trial trial, String seen) {
        checks.is("a look is at a pump of at most 512 calls: 1", 1, trial.isOverused() ? 0 : 1);
        return seen;
    }

    private Map<String, String> viewBehind(int count) {
        if (viewedRows == count) {
            return view;
        }
        Map<String, String> parts = new LinkedHashMap<>();
        Trial first = replay(count);
        String changes = first.ask("account", 14);
        parts.put("the changes that can be undone", changes);
        parts.put("the reason", first.reason());
        parts.put("the fault position", first.ask("faultPosition"));
        parts.put("the line", look(first, first.line()));
        Trial text = replay(count);
        parts.put("the buffer", text.ask("account", 15) + ' ' + text.ask("commands") + ' '
            + look(text, text.ask("faultPosition")));
        Trial second = replay(count);
        parts.put("the state", look(second, second.state()));
        Trial third = replay(count);
        parts.put("what is asked", third.told());
        checks.isText("the state behind questions", parts.get("the state"), look(third, third.state()));
        parts.put("the minutes", minutesOf(replay(count)));
        parts.put("the snapshot", restored(replay(count), replay(count)));
        int depth = changes.startsWith("throws ") ? 0 : Integer.parseInt(changes);
        for (int k = 1; k <= depth; k++) {
            parts.put("what there was " + k + " changes ago", undone(replay(count), replay(count), k));
        }
        viewedRows = count;
        view = parts;
        return parts;
    }

    private String minutesOf(Trial trial) {
        return look(trial, trial.minutes());
    }

    private String restored(Trial one, Trial other) {
        String answer = one.ask("restore");
        other.ask("restore");
        return answer.startsWith("throws ") ? answer : answer + look(one, one.state()) + minutesOf(other);
    }

    private String undone(Trial one, Trial other, int times) {
        StringBuilder answers = new StringBuilder();
        for (int k = 0; k < times; k++) {
            answers.append(one.ask("undo")).append(' ');
            other.ask("undo");
        }
        return answers.append(look(one, one.state())).append(minutesOf(other)).toString();
    }
}
