import java.lang.reflect.Method;
import java.util.ArrayList;
import java.util.Arrays;
import java.util.List;
import java.util.Random;

/** Promises 1 to 44: random runs of calls (fixed seeds), each answer compared with the Model's. */
public final class ModelTest {
    private static final int RUNS = 3000, CALLS = 120;

    /** A method, and of which sort its arguments are. */
    private static final String[] CALLS_TOLD = {
        "later day", "row row size", "lay row place byte", "tear row", "copy row place row place size",
        "match row row", "sure row row", "paint paint year", "sap sap sap use", "proof year year weight",
        "found paint weight", "rings ringYear ringSap weight", "threads row row year year weight",
        "strike proof", "told proof what", "mark proof kind", "span day flag", "quarrel day",
        "leftOut day", "heldYear day", "hand hand handWeight", "test cost wound group",
        "often test hand often", "done test flag", "chance hand", "likely", "gain test",
        "next cost wound", "owner year year", "gaps year year", "opinion expert hand percent flag",
        "mean hand flag", "spread", "sold day price hand", "law day limit percent percent", "claim",
        "asked", "upper", "lower", "count what", "finding", "findings finding", "digest",
    };

    /** What a run does most, so that each part is also seen well filled. */
    private static final String[][] THEMES = {
        {},
        {"row", "lay", "lay", "lay", "copy", "match", "sure", "threads", "mark", "told", "tear"},
        {"proof", "found", "rings", "threads", "paint", "sap", "strike", "later", "span", "quarrel", "leftOut",
            "heldYear", "row", "lay", "told"},
        {"hand", "test", "often", "often", "often", "done", "chance", "likely", "gain", "next"},
        {"owner", "gaps", "opinion", "mean", "spread"},
        {"sold", "law", "claim", "claim", "later", "hand", "test", "often", "done"},
    };

    private final Random random;
    private final int spreadOfYears;
    private final PictureCourt court = new PictureCourt();
    private final Model model = new Model();
    private final List<String> story = new ArrayList<>();

    private ModelTest(long seed) {
        random = new Random(seed);
        spreadOfYears = random.nextBoolean() ? 30 : 600;
    }

    public static void main(String[] args) throws Exception {
        Method[] ofCourt = methods(PictureCourt.class);
        Method[] ofModel = methods(Model.class);
        long calls = 0;
        for (int seed = 0; seed < RUNS; seed++) {
            ModelTest run = new ModelTest(seed);
            if (!run.isAsDue(ofCourt, ofModel)) {
                System.out.println("seed " + seed + ":");
                run.story.forEach(System.out::println);
                System.exit(1);
            }
            calls += CALLS;
        }
        System.out.println(calls + " random calls in " + RUNS + " runs are as due");
    }

    private static Method[] methods(Class<?> of) {
        Method[] found = new Method[CALLS_TOLD.length];
        for (int k = 0; k < found.length; k++) {
            String name = CALLS_TOLD[k].split(" ")[0];
            found[k] = Arrays.stream(of.getDeclaredMethods()).filter(m -> m.getName().equals(name)).findFirst().get();
            found[k].setAccessible(true);
        }
        return found;
    }

    private boolean isAsDue(Method[] ofCourt, Method[] ofModel) throws Exception {
        String[] theme = THEMES[random.nextInt(THEMES.length)];
        for (int n = 0; n < CALLS; n++) {
            int k = chooseCall(theme);
            Object[] values = arguments(CALLS_TOLD[k].split(" "));
            long got = ((Number) ofCourt[k].invoke(court, values)).longValue();
            long due = ((Number) ofModel[k].invoke(model, values)).longValue();
            story.add(ofCourt[k].getName() + Arrays.toString(values) + " answered " + got + ", due is " + due);
            if (got != due || !isStateAsDue()) {
                return false;
            }
        }
        return isAllAsDue();
    }

    private int chooseCall(String[] theme) {
        if (theme.length == 0 || random.nextInt(8) == 0) {
            return random.nextInt(CALLS_TOLD.length);
        }
        String name = theme[random.nextInt(theme.length)];
        for (int k = 0; k < CALLS_TOLD.length; k++) {
            if (CALLS_TOLD[k].split(" ")[0].equals(name)) {
                return k;
            }
        }
        throw new IllegalStateException(name);
    }

    /** Three calls more for each call, so that a run stays below 512. */
    private boolean isStateAsDue() {
        return same("digest()", court.digest(), model.digest())
                && same("asked()", court.asked(), model.asked())
                && same("finding()", court.finding(), model.finding());
    }

    private boolean isAllAsDue() {
        boolean is = same("upper()", court.upper(), model.upper()) && same("lower()", court.lower(), model.lower());
        for (int f = 1; f <= 5; f++) {
            is &= same("findings(" + f + ")", court.findings(f), model.findings(f));
        }
        return is && same("claim()", court.claim(), model.claim())
                && same("spread()", court.spread(), model.spread())
                && same("gaps(1000, 2100)", court.gaps(1000, 2100), model.gaps(1000, 2100));
    }

    private boolean same(String call, long got, long due) {
        if (got != due) {
            story.add(call + " then answered " + got + ", due is " + due);
        }
        return got == due;
    }

    private Object[] arguments(String[] told) {
        Object[] values = new Object[told.length - 1];
        for (int i = 0; i < values.length; i++) {
            values[i] = told[i + 1].equals("flag") ? (Object) random.nextBoolean() : (Object) number(told[i + 1]);
        }
        boolean areYears = told.length > 2 && String.join(" ", told).contains("year year");
        if (areYears && random.nextInt(10) != 0) {
            putInOrder(values, Arrays.asList(told).indexOf("year") - 1);
        }
        return values;
    }

    private static void putInOrder(Object[] values, int i) {
        if ((int) values[i] > (int) values[i + 1]) {
            Object first = values[i];
            values[i] = values[i + 1];
            values[i + 1] = first;
        }
    }

    private int number(String sort) {
        if (random.nextInt(60) == 0) {
            int[] wild = {Integer.MIN_VALUE, Integer.MAX_VALUE, -1, -9, 0, 30001, 2101, 999, 41, 6, 4, 24, 10};
            return wild[random.nextInt(wild.length)];
        }
        switch (sort) {
            case "day": return random.nextInt(40) == 0 ? 30000 - random.nextInt(3) : random.nextInt(30);
            case "limit": return random.nextInt(60);
            case "row": return random.nextInt(40) == 0 ? 6 : random.nextInt(6);
            case "size": return random.nextInt(40) == 0 ? 41 - random.nextInt(3) : random.nextInt(9) - 1;
            case "place": return random.nextInt(9) - 1;
            case "byte": return random.nextInt(6) == 0 ? random.nextInt(2000) - 1000 : random.nextInt(4);
            case "paint": return random.nextInt(11);
            case "year": return random.nextInt(20) == 0 ? edgeYear() : 1500 + random.nextInt(spreadOfYears);
            case "ringYear": return random.nextInt(20) == 0 ? edgeYear() - 100 : 1490 + random.nextInt(spreadOfYears);
            case "ringSap": return random.nextInt(32);
            case "sap": return random.nextInt(62);
            case "use": return random.nextInt(62);
            case "weight": return random.nextInt(20) == 0 ? 10 * random.nextInt(2) : 1 + random.nextInt(9);
            case "proof": return random.nextInt(12);
            case "test": return random.nextInt(10);
            case "what": return random.nextInt(9) - 1;
            case "kind": return random.nextInt(5);
            case "hand": return random.nextInt(30) == 0 ? 4 : random.nextInt(4);
            case "handWeight": return random.nextInt(3) == 0 ? 0 : random.nextInt(101);
            case "cost": return random.nextInt(4) == 0 ? random.nextInt(1002) : random.nextInt(20);
            case "wound": return random.nextInt(11);
            case "group": return random.nextInt(2) == 0 ? PictureCourt.NONE : random.nextInt(5);
            case "often": return random.nextInt(3) == 0 ? 16 * random.nextInt(2) : random.nextInt(18);
            case "expert": return random.nextInt(3) == 0 ? random.nextInt(11) : random.nextInt(3);
            case "percent": return random.nextInt(102);
            case "price": return random.nextInt(5) == 0 ? 999999 + random.nextInt(3) : random.nextInt(100000);
            case "finding": return random.nextInt(7);
            default: throw new IllegalStateException(sort);
        }
    }

    private int edgeYear() {
        int[] edges = {999, 1000, 1001, 2099, 2100, 2101};
        return edges[random.nextInt(edges.length)];
    }
}
