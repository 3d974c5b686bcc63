import java.lang.reflect.InvocationTargetException;
import java.lang.reflect.Method;
import java.util.ArrayList;
import java.util.List;
import java.util.Random;
import java.util.TreeMap;

/** Runs of drawn calls, whose answers must be those of the Model. The argument: how many runs. */
public final class ModelTest {
    private static final int CALLS = 512;
    // Day 0 is worth 1 for each post squared, so that a road with one wagon then has a great year.
    private static final int SLOW_START = 6;
    private static final int STYLES = 7;
    private static final String[] NAMES = {"feed", "end", "road", "count", "counts", "works", "seen", "kind",
        "whole", "posts", "worth", "sample", "fit", "year", "trial", "flow", "missing", "agreed", "told"};
    private static final int[] EDGES = {Integer.MIN_VALUE, Integer.MIN_VALUE + 1, -2, -1, 0, 1, 2, 3, 4, 7, 8,
        15, 16, 83, 84, 85, 99, 100, 200, 255, Integer.MAX_VALUE - 1, Integer.MAX_VALUE};
    private static final TreeMap<String, Integer> answered = new TreeMap<>();

    private final Random random;
    private final RoadOffice office = new RoadOffice();
    private final Model model = new Model();
    private final List<String> calls = new ArrayList<>();
    private boolean wrong = false;

    private ModelTest(long seed) {
        random = new Random(seed);
    }

    public static void main(String[] args) {
        int runs = args.length > 0 ? Integer.parseInt(args[0]) : 100;
        int wrongRuns = 0;
        for (int seed = 0; seed < runs && wrongRuns < 3; seed++) {
            ModelTest run = new ModelTest(seed);
            run.play();
            if (run.wrong) {
                wrongRuns++;
                System.out.println("run " + seed + " (the last row is wrong):");
                run.calls.forEach(call -> System.out.println("  " + call));
            }
        }
        if (args.length > 1) {
            answered.forEach((what, often) -> System.out.println(what + " " + often));
        }
        if (wrongRuns > 0) {
            System.exit(1);
        }
    }

    private void play() {
        int roads = random.nextInt(5) == 0 ? 1 + random.nextInt(5) : 5 + random.nextInt(12);
        int most = random.nextInt(3) == 0 ? 50 : 1 + random.nextInt(50);
        int style = random.nextInt(STYLES + 1);
        int posts = random.nextInt(4) == 0 ? random.nextInt(8) : 2 + random.nextInt(3);
        int groups = 1 + random.nextInt(4);
        // Few outer crossings make parts of the map that nothing leads out of.
        int crossings = random.nextInt(3) == 0 ? 8 : 3 + random.nextInt(4);
        for (int r = 0; r < roads; r++) {
            drawRoad(r, crossings, r < posts ? random.nextInt(groups) : random.nextInt(5) - 1);
        }
        for (int r = 0; r < Math.min(posts, roads); r++) {
            tellRow(r, 0, yearRow(style, most));
        }
        for (int r = posts; r < roads && style == SLOW_START; r++) {
            tellRow(r, 0, new int[] {random.nextInt(4) * 2 / 3});
        }
        int limit = 250 + random.nextInt(CALLS - 250);
        while (calls.size() < limit - 10 && !wrong) {
            if (random.nextInt(20) == 0) {
                drawWildCall();
            } else if (random.nextInt(3) == 0) {
                drawChange(drawChanged(roads, posts), style, most);
            } else {
                drawQuestion(roads);
            }
        }
        for (int i = 0; calls.size() < CALLS && !wrong; i++) {
            sweep(i, roads);
        }
    }

    /** Asks for what hangs together most, of one road after the other. */
    private void sweep(int i, int roads) {
        int r = i / 6 % roads;
        int t = model.told(2);
        switch (i % 6) {
            case 0: call("fit", r, 0, t); break;
            case 1: call("fit", r, 1, t); break;
            case 2: call("year", r, t, 0); break;
            case 3: call("year", r, t, 1); break;
            case 4: call("agreed", r, t, 0); break;
            default: call("agreed", r, t, 1); break;
        }
    }

    private void drawRoad(int r, int crossings, int group) {
        int from = random.nextInt(crossings);
        call("road", r, from, (from + 1 + random.nextInt(crossings - 1)) % crossings, group);
    }

    private int[] yearRow(int style, int most) {
        int[] row = new int[84];
        int offWeekday = random.nextInt(9);
        int offMonth = random.nextInt(14);
        int drawn = style < STYLES ? style : random.nextInt(STYLES);
        for (int d = 0; d < 84; d++) {
            switch (drawn) {
                case 0: row[d] = most; break;
                case 1: row[d] = random.nextInt(most + 1); break;
                case 2: row[d] = d % 7 == offWeekday || d / 7 == offMonth ? 0 : most; break;
                case 3: row[d] = (d % 7 + 1) * (d / 7 + 1) % (most + 1); break;
                case 4: row[d] = random.nextInt(20) == 0 ? most : 0; break;
                case 5: row[d] = d % 7 == offWeekday % 7 ? 1 : 0; break;
                default: row[d] = d == 0 ? 1 : d < 7 || d % 7 == 0 ? 0 : random.nextInt(10); break;
            }
        }
        if (style != SLOW_START && random.nextInt(12) == 0) {
            java.util.Arrays.fill(row, 0);
        }
        return row;
    }

    // Posts are let alone for the most part, or no group would stay there for long.
    private int drawChanged(int roads, int posts) {
        boolean any = posts >= roads || random.nextInt(15) == 0;
        return any ? random.nextInt(roads + 1) : posts + random.nextInt(roads - posts);
    }

    private void drawChange(int r, int style, int most) {
        int from = random.nextInt(90) - 2;
        switch (random.nextInt(14)) {
            case 0:
                call("later");
                break;
            case 1:
                call("works", r, from, from + random.nextInt(12) - 1, random.nextInt(2));
                break;
            case 2:
                call("works", r, 0, 84, random.nextInt(6) / 5);
                break;
            case 3:
                call("road", random.nextInt(18) - 1, random.nextInt(10) - 1, random.nextInt(10) - 1,
                        random.nextInt(7) - 2);
                break;
            case 4:
                tellKinds(r, from);
                break;
            case 5:
                call("feed", random.nextInt(), random.nextInt(), random.nextInt(), random.nextInt(),
                        random.nextInt());
                call("end", random.nextInt(22) - 1);
                break;
            case 6:
                if (random.nextInt(4) == 0) {
                    tellRow(r, 0, yearRow(style, most));
                }
                break;
            default:
                tellRow(r, from, shortRow(most));
                break;
        }
    }

    private int[] shortRow(int most) {
        int[] row = new int[random.nextInt(20)];
        for (int i = 0; i < row.length; i++) {
            row[i] = random.nextInt(8) == 0 ? 255 : random.nextInt(most + 1);
        }
        if (row.length > 0 && random.nextInt(15) == 0) {
            row[random.nextInt(row.length)] = 51 + random.nextInt(204);
        }
        return row;
    }

    private void tellKinds(int r, int day) {
        int[] row = new int[random.nextInt(8) == 0 ? random.nextInt(10) : 7];
        for (int i = 0; i < row.length; i++) {
            row[i] = random.nextInt(12);
        }
        feedRow(row);
        call("count", r, day);
    }

    private void tellRow(int r, int from, int[] row) {
        feedRow(row);
        call("counts", r, from);
    }

    private void feedRow(int[] row) {
        call("end", 0);
        for (int i = 0; i < row.length; i += 20) {
            int[] numbers = new int[5];
            for (int j = 0; j < 20; j++) {
                numbers[j / 4] = numbers[j / 4] << 8 | (i + j < row.length ? row[i + j] : 0);
            }
            call("feed", numbers);
        }
        call("end", row.length);
    }

    private void drawQuestion(int roads) {
        int r = random.nextInt(12) == 0 ? random.nextInt(20) - 2 : random.nextInt(roads);
        int t = random.nextInt(25) == 0 ? -1 : model.told(2) - random.nextInt(3) + 1;
        int day = random.nextInt(88) - 2;
        int what = random.nextInt(20) == 0 ? random.nextInt(5) - 2 : random.nextInt(2);
        switch (random.nextInt(16)) {
            case 0: call("seen", r, day, t); break;
            case 1: call("kind", r, day, t, random.nextInt(5) - 1); break;
            case 2: call("whole", r, t); break;
            case 3: call("posts", random.nextInt(6) - 1, t); break;
            case 4: call("worth", random.nextInt(6) - 1, day, t); break;
            case 5: call("sample", r, t); break;
            case 6: call("fit", r, random.nextInt(6) - 1, t); break;
            case 7: call("year", r, t, what); break;
            case 8: call("trial", r, t, what); break;
            case 9: call("flow", r, t); break;
            case 10: call("missing", random.nextInt(10) - 1, t); break;
            case 11: call("told", random.nextInt(6) - 1); break;
            case 12: call("fit", r, random.nextInt(3), t); break;
            default: call("agreed", r, t, what); break;
        }
    }

    private void drawWildCall() {
        String name = NAMES[random.nextInt(NAMES.length)];
        for (Method method : RoadOffice.class.getMethods()) {
            if (method.getName().equals(name)) {
                int[] numbers = new int[method.getParameterCount()];
                for (int i = 0; i < numbers.length; i++) {
                    numbers[i] = EDGES[random.nextInt(EDGES.length)];
                }
                call(name, numbers);
            }
        }
    }

    private void call(String name, int... numbers) {
        String due = answer(model, name, numbers);
        String got = answer(office, name, numbers);
        calls.add(name + java.util.Arrays.toString(numbers) + " answered " + got + ", due is " + due);
        answered.merge(name + (due.startsWith("throws") ? " throws" : due.startsWith("-") ? " below 0" : ""),
                1, Integer::sum);
        wrong |= !got.equals(due);
    }

    private static String answer(Object asked, String name, int[] numbers) {
        for (Method method : asked.getClass().getMethods()) {
            if (method.getName().equals(name) && method.getParameterCount() == numbers.length) {
                Object[] arguments = new Object[numbers.length];
                for (int i = 0; i < numbers.length; i++) {
                    boolean isFlag = method.getParameterTypes()[i] == boolean.class;
                    arguments[i] = isFlag ? (Object) (numbers[i] != 0) : (Object) numbers[i];
                }
                try {
                    return String.valueOf(method.invoke(asked, arguments));
                } catch (InvocationTargetException e) {
                    return "throws." + e.getCause().getClass().getSimpleName();
                } catch (IllegalAccessException e) {
                    throw new IllegalStateException(e);
                }
            }
        }
        throw new IllegalStateException(name);
    }
}
