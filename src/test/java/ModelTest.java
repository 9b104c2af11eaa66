import java.lang.reflect.Method;
import java.lang.reflect.Modifier;
import java.util.ArrayList;
import java.util.Arrays;
import java.util.List;
import java.util.Random;

/** Long mixed runs of calls: the program answers every one as the slow reading of the document does. */
public final class ModelTest {
    private static final int RUNS = 400;
    private static final int CALLS = 512;

    private static final String[] WORDS = {"street", "shaded", "windy", "chapel", "steep", "crowded", "ants", "long",
        "umbrella", "spell", "sun", "rain", "quarter", "salt", "sugar", ";", "?", "streets", "10000", "007", "A"};

    private final Random random;
    private final SugarSaint program = new SugarSaint();
    private final NaiveSaint model = new NaiveSaint();
    private final Method[] acts;
    private final StringBuilder story = new StringBuilder();
    private int calls = 0;

    private ModelTest(long seed) {
        random = new Random(seed);
        acts = SugarSaint.class.getDeclaredMethods();
        // the machine gives no order of its own, and a run must be the same every time
        Arrays.sort(acts, (a, b) -> a.getName().compareTo(b.getName()));
    }

    public static void main(String[] args) throws Exception {
        int runs = args.length > 0 ? Integer.parseInt(args[0]) : RUNS;
        long first = args.length > 1 ? Long.parseLong(args[1]) : 1;
        for (int run = 0; run < runs; run++) {
            if (!new ModelTest(first + run).go()) {
                System.exit(1);
            }
        }
    }

    private boolean go() throws Exception {
        boolean same = buildTown();
        List<Method> face = new ArrayList<>();
        for (Method m : acts) {
            if (Modifier.isPublic(m.getModifiers())) {
                face.add(m);
            }
        }
        boolean wild = random.nextInt(4) == 0;
        // days that end late, saints that melt: what begins anew comes seldom
        List<String> rare = List.of("day", "year", "undo", "street", "text");
        while (same && calls < CALLS) {
            Method act = face.get(random.nextInt(face.size()));
            String name = act.getName();
            if (name.equals("text") && random.nextBoolean()) {
                same = tell();
            } else if (name.equals("judge") && random.nextBoolean()) {
                same = walkOnSheet();
            } else if (!rare.contains(name) || random.nextInt(5) == 0) {
                Object[] args = new Object[act.getParameterCount()];
                for (int i = 0; i < args.length; i++) {
                    args[i] = argument(name, i, wild);
                }
                same = call(act, args);
            }
        }
        return same;
    }

    private boolean call(Method act, Object... args) throws Exception {
        calls++;
        Object got = act.invoke(program, args);
        Object due = NaiveSaint.class.getMethod(act.getName(), act.getParameterTypes()).invoke(model, args);
        story.append(act.getName()).append(Arrays.toString(args)).append(" = ").append(got).append('\n');
        if (!got.equals(due)) {
            System.out.println(story + "due is " + due);
        }
        return got.equals(due);
    }

    private boolean call(String name, int... numbers) throws Exception {
        Class<?>[] types = new Class<?>[numbers.length];
        Object[] args = new Object[numbers.length];
        for (int i = 0; i < numbers.length; i++) {
            types[i] = int.class;
            args[i] = numbers[i];
        }
        return call(SugarSaint.class.getMethod(name, types), args);
    }

    /** Towns of unlike thickness, so that rounds are sometimes many and sometimes none. */
    private boolean buildTown() throws Exception {
        int streets = random.nextInt(16);
        int corners = 2 + random.nextInt(7);
        boolean same = true;
        for (int i = 0; i < streets && same; i++) {
            int longest = random.nextBoolean() ? 20 : 4;
            same = call("street", random.nextInt(7), random.nextInt(corners), random.nextInt(corners),
                    1 + random.nextInt(longest));
        }
        for (int i = 0; i < 12 && same; i++) {
            same = call("spell", i, random.nextInt(2), random.nextInt(4));
        }
        if (random.nextInt(3) == 0) {
            for (int corner = 0; corner < 8 && same; corner++) {
                same = call("quarter", corner, random.nextInt(2));
            }
        }
        return same;
    }

    private boolean tell() throws Exception {
        String text = random.nextInt(3) == 0 ? jumble() : sense();
        boolean same = true;
        for (int i = 0; i < text.length() && same; ) {
            int n = Math.min(1 + random.nextInt(4), text.length() - i);
            int bytes = random.nextInt(256);
            for (int k = 0; k < n; k++) {
                bytes = bytes << 8 | text.charAt(i + k);
            }
            same = call("feed", bytes, n);
            i += n;
        }
        return same && call("text");
    }

    private String jumble() {
        StringBuilder text = new StringBuilder();
        for (int i = random.nextInt(8); i >= 0; i--) {
            text.append(random.nextBoolean() ? WORDS[random.nextInt(WORDS.length)] : "" + random.nextInt(12));
            text.append(random.nextInt(5) == 0 ? "" : " ");
        }
        return text.toString();
    }

    private String sense() {
        List<String> items = new ArrayList<>();
        for (int i = random.nextInt(5); i >= 0; i--) {
            int a = random.nextInt(8);
            int b = random.nextInt(8);
            switch (random.nextInt(6)) {
                case 0:
                    items.add("spell " + random.nextInt(12) + (random.nextBoolean() ? " sun " + random.nextInt(10) : "")
                            + (random.nextBoolean() ? " rain " + random.nextInt(10) : ""));
                    break;
                case 1:
                    items.add("quarter " + a + " " + random.nextInt(4));
                    break;
                case 2:
                    items.add(random.nextBoolean() ? "salt" : "sugar");
                    break;
                default:
                    items.add(WORDS[random.nextInt(7)] + " " + a + " " + b
                            + (random.nextBoolean() ? " long " + (1 + random.nextInt(20)) : "")
                            + (random.nextBoolean() ? " umbrella" : ""));
                    break;
            }
        }
        StringBuilder text = new StringBuilder(String.join(random.nextBoolean() ? ";" : " ; ", items));
        if (random.nextInt(3) == 0) {
            int place = random.nextInt(text.length());
            switch (random.nextInt(3)) {
                case 0:
                    text.deleteCharAt(place);
                    break;
                case 1:
                    text.setLength(place);
                    break;
                default:
                    text.setCharAt(place, (char) random.nextInt(256));
                    break;
            }
        }
        return text.toString();
    }

    /** A sheet whose numbers are mostly a walk that can be gone, and THE READER's word on it. */
    private boolean walkOnSheet() throws Exception {
        int s = random.nextInt(4);
        int steps = random.nextInt(random.nextBoolean() ? 5 : 41);
        boolean same = call("sheet", s, 8 << random.nextInt(3), steps);
        int at = model.now(6);
        for (int i = 0; i < steps && same; i++) {
            int next = random.nextInt(40) == 0 ? random.nextInt(300) - 100 : neighbour(at);
            same = call("write", s, i, next);
            at = next;
        }
        return same && call(random.nextInt(4) == 0 ? "load" : "judge", s);
    }

    private int neighbour(int corner) {
        List<Integer> near = new ArrayList<>();
        for (int to = 0; to < 8; to++) {
            if (corner >= 0 && corner < 8 && (model.next(corner) >> to & 1) == 1) {
                near.add(to);
            }
        }
        return near.isEmpty() ? random.nextInt(8) : near.get(random.nextInt(near.size()));
    }

    private int argument(String name, int i, boolean wild) {
        int dice = random.nextInt(wild ? 12 : 60);
        int[] bounds = bounds(name, i);
        if (dice == 0) {
            return Check.FAR[random.nextInt(Check.FAR.length)];
        }
        if (dice == 1) {
            return random.nextBoolean() ? bounds[0] - 1 : bounds[1] + 1;
        }
        if (name.equals("carry") && dice > 5) {
            return neighbour(model.now(6));
        }
        if (name.equals("seed") || name.equals("write") && i == 2 || name.equals("feed") && i == 0) {
            return random.nextInt() >> random.nextInt(32);
        }
        if (name.equals("sheet") && i == 1) {
            return 8 * random.nextInt(5);
        }
        if (name.equals("grains") && i == 1 && random.nextInt(3) > 0) {
            return random.nextInt(300);
        }
        return bounds[0] + random.nextInt(bounds[1] - bounds[0] + 1);
    }

    private int[] bounds(String name, int i) {
        int lastStreet = Math.max(0, model.count(0) - 1);
        switch (name + i) {
            case "street3": return new int[] {1, 20};
            case "of0":
            case "change0":
            case "loss0":
            case "costs0":
            case "kindFor0": return new int[] {0, lastStreet};
            case "hold1": return new int[] {-1, lastStreet};
            case "of1":
            case "street0":
            case "as1":
            case "way1":
            case "ith0": return new int[] {0, 6};
            case "change1": return new int[] {0, 4};
            case "change2": return new int[] {0, random.nextInt(3) > 0 ? 6 : 20};
            case "quarter1":
            case "grains0":
            case "sheet0":
            case "write0":
            case "copy0":
            case "copy2":
            case "load0":
            case "judge0": return new int[] {0, 3};
            case "spell0":
            case "loss1": return new int[] {0, 11};
            case "spell1":
            case "made0": return new int[] {0, 1};
            case "spell2":
            case "now0":
            case "hold0":
            case "as0": return new int[] {0, 9};
            case "grains1": return new int[] {0, 9999};
            case "wait0": return new int[] {1, 60};
            case "costs1": return new int[] {0, 999};
            case "sky0":
            case "stray0": return new int[] {1, 12};
            case "feed1": return new int[] {1, 4};
            case "sheet2":
            case "write1": return new int[] {0, 40};
            case "copy1":
            case "copy3":
            case "copy4": return new int[] {0, 12};
            case "status0": return new int[] {-1, 6};
            default: return new int[] {0, 7};
        }
    }
}
