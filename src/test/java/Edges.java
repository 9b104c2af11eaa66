import java.lang.reflect.Method;
import java.util.ArrayList;
import java.util.List;

/**
 * Plays runs of calls that are written as text. Each run has an object of its own; runs stand apart by an empty
 * line. The lines of a run:
 *
 *   # words             the sentence of the document that the lines below it hold to
 *   carry(1)            a call
 *   16 x wait(60)       a call, so many times
 *   'salt; ants 0 1'    a text, fed to the tape four bytes at a time
 *   carry(1) = 1000 - 60        a call with the answer that is due, or with the name of a finding
 *
 * Where a finding is due, the run is played a second and a third time, up to the call and through it, to see that
 * the call changed nothing but the one status(). Likewise a text() with a fault changes nothing but the tape.
 */
final class Edges {
    private static final List<String> FINDINGS =
            List.of("BEYOND", "FULL", "KIND", "NONE", "STATE", "MISSING", "SIZE");
    private static final int NO_FINDING = -2;
    private static final int MOST_CALLS = 512;

    private SugarSaint saint = new SugarSaint();
    private int calls = 0;
    private int lastAnswer = 0;

    private Edges() {
    }

    static void check(String promise, String runs) {
        int played = 0;
        for (String run : runs.split("\n\\s*\n")) {
            if (!run.isBlank()) {
                playRun(promise, run.strip().split("\\s*\n\\s*"));
                played++;
            }
        }
        Check.due(promise + " has runs", played > 0 ? 1 : 0, 1);
    }

    private static void playRun(String promise, String[] lines) {
        Edges run = new Edges();
        String sentence = "";
        int asked = 0;
        for (int i = 0; i < lines.length; i++) {
            if (lines[i].startsWith("#")) {
                sentence = lines[i].substring(1).strip();
                continue;
            }
            run.play(lines[i]);
            int equals = lines[i].indexOf(" = ");
            if (equals >= 0 && !lines[i].startsWith("'")) {
                String due = lines[i].substring(equals + 3).strip();
                String told = promise + " (" + sentence + "): " + lines[i].substring(0, equals);
                Check.due(told, run.lastAnswer, number(due));
                asked++;
                if (FINDINGS.contains(due)) {
                    checkNothingChanged(told, played(lines, i), played(lines, i + 1), FINDINGS.indexOf(due));
                } else if (lines[i].startsWith("text()") && number(due) < 0) {
                    Edges ahead = played(lines, i);
                    ahead.call("wipe");
                    checkNothingChanged(told, ahead, played(lines, i + 1), NO_FINDING);
                }
            }
        }
        Check.due(promise + " (" + sentence + ") asks something", asked > 0 ? 1 : 0, 1);
    }

    private static void checkNothingChanged(String told, Edges ahead, Edges behind, int which) {
        for (int kind = -1; kind < FINDINGS.size(); kind++) {
            int more = which != NO_FINDING && (kind == -1 || kind == which) ? 1 : 0;
            Check.due(told + " and then status(" + kind + ")", behind.call("status", kind),
                    ahead.call("status", kind) + more);
        }
        Check.same(told + " changes nothing", behind.takeStock(), ahead.takeStock());
    }

    private static Edges played(String[] lines, int end) {
        Edges run = new Edges();
        for (int i = 0; i < end; i++) {
            if (!lines[i].startsWith("#")) {
                run.play(lines[i]);
            }
        }
        return run;
    }

    private void play(String line) {
        if (line.startsWith("'")) {
            feed(line.substring(1, line.lastIndexOf('\'')));
            return;
        }
        String act = line.contains(" = ") ? line.substring(0, line.indexOf(" = ")) : line;
        int times = 1;
        if (act.contains(" x ")) {
            times = Integer.parseInt(act.substring(0, act.indexOf(" x ")).strip());
            act = act.substring(act.indexOf(" x ") + 3).strip();
        }
        int open = act.indexOf('(');
        String between = act.substring(open + 1, act.lastIndexOf(')')).strip();
        String[] words = between.isEmpty() ? new String[0] : between.split("\\s*,\\s*");
        int[] numbers = new int[words.length];
        for (int i = 0; i < words.length; i++) {
            numbers[i] = number(words[i]);
        }
        for (int i = 0; i < times; i++) {
            lastAnswer = call(act.substring(0, open), numbers);
        }
    }

    private void feed(String text) {
        for (int i = 0; i < text.length(); i += 4) {
            int n = Math.min(4, text.length() - i);
            int bytes = 0;
            for (int k = 0; k < n; k++) {
                bytes = bytes << 8 | text.charAt(i + k) & 255;
            }
            call("feed", bytes, n);
        }
    }

    private int call(String name, int... numbers) {
        calls++;
        if (calls == MOST_CALLS + 1) {
            Check.due("calls on one object, of which the document promises 512; at " + name, calls, MOST_CALLS);
        }
        Class<?>[] types = new Class<?>[numbers.length];
        Object[] args = new Object[numbers.length];
        for (int i = 0; i < numbers.length; i++) {
            types[i] = int.class;
            args[i] = numbers[i];
        }
        try {
            Method act = SugarSaint.class.getMethod(name, types);
            return (Integer) act.invoke(saint, args);
        } catch (ReflectiveOperationException e) {
            Check.due(name + " can be called: " + e.getCause(), 0, 1);
            return 0;
        }
    }

    /** A number, a sum like 1000 - 60 + 3, or a name. */
    private static int number(String words) {
        int sum = 0;
        int sign = 1;
        for (String word : words.split(" ")) {
            if (word.equals("-") || word.equals("+")) {
                sign = word.equals("-") ? -1 : 1;
            } else if (FINDINGS.contains(word)) {
                sum += -1000001 - FINDINGS.indexOf(word);
            } else if (word.equals("MIN") || word.equals("MAX")) {
                sum += word.equals("MIN") ? Integer.MIN_VALUE : Integer.MAX_VALUE;
            } else {
                sum += sign * Integer.parseInt(word);
            }
        }
        return sum;
    }

    /** All that the object can be asked for, sheets, tape and image too, whatever becomes of it. */
    private String takeStock() {
        List<Integer> all = new ArrayList<>();
        addScene(all);
        for (int s = 0; s < 4; s++) {
            for (int t = 0; t <= s; t++) {
                all.add(call("copy", s, 0, t, 0, 0));
            }
            all.add(call("judge", s));
            all.add(sizeOfSheet(s));
            all.add(call("load", s));
            addSuns(all);
        }
        all.add(call("text"));
        all.add(call("now", 5));
        for (int what = 0; what < 5; what++) {
            all.add(call("count", what));
        }
        all.add(call("undo"));
        addScene(all);
        all.add(call("tear"));
        return all.toString();
    }

    private void addScene(List<Integer> all) {
        for (int what = 0; what < 10; what++) {
            all.add(call("now", what));
        }
        for (int what = 0; what < 8; what++) {
            all.add(call("count", what));
        }
        int streets = call("count", 0);
        for (int street = 0; street < streets; street++) {
            for (int what = 0; what < 5; what++) {
                all.add(call("of", street, what));
            }
        }
        for (int corner = 0; corner < 8; corner++) {
            all.add(call("quarter", corner, 0));
        }
        for (int spot = 0; spot < 10; spot++) {
            all.add(call("as", spot, 0));
        }
        addSuns(all);
        for (int spell = 0; spell < 12; spell++) {
            all.add(call("spell", spell, 1, 0));
        }
    }

    private void addSuns(List<Integer> all) {
        for (int spell = 0; spell < 12; spell++) {
            all.add(call("spell", spell, 0, 0));
        }
    }

    /** The greatest place from which no numbers can be copied, found by halving. */
    private int sizeOfSheet(int s) {
        int size = 0;
        for (int step = 32; step > 0; step /= 2) {
            if (call("copy", s, size + step, s, 0, 0) == 0) {
                size += step;
            }
        }
        return size;
    }
}
