import java.lang.reflect.Method;
import java.util.ArrayList;
import java.util.Arrays;
import java.util.HashMap;
import java.util.List;
import java.util.Map;
import java.util.Random;

/** Random runs of calls, each answer held against the plain model's. */
public final class ModelTest {
    private static final int[] WILD = {Integer.MIN_VALUE, Integer.MAX_VALUE, -1, 100000, -100000, StrokesHeard.NONE, 1 << 30};

    /** For each call the least and the most of its arguments that are no wrong ones. */
    private static final Map<String, int[]> CALLS = new HashMap<>();
    static {
        for (String row : ("clock 0 5 0 59 0 9|told 0 5 0 5|as 0 5 0 5|turns 0 5 0 5|set 0 5 1 2 0 59|strokes 0 5 0 719|"
            + "total 0 719|ear 0 1 0 100|deal 1 6|seed -99 99|minutes 1 100|bed 0 3|note 0 11|fits 0 719|may 0 3|next|"
            + "parts 0 719 0 20|astray 0 1|right 0 5 0 1|telling|like 0 3 0 1|behind 0 100 0 3|listen|fee|fine 0 5|"
            + "feed 0 0 0 0 0 0|trim 0 96|text|textTold 0 13 0 1|why 0 2|sheet 0 3 -1 1 0 24|mark 0 3 0 23 -60 60|pour 0 3|"
            + "reads 0 3|copy 0 3 0 23 0 3 0 23 0 24|lay 0 4 0 3 0 5|ask 0 4 0 5|item 0 4 0 23|rest 0 4 -9 9|tell 0 20|"
            + "check 1 30|keep|back|count 0 7").split("\\|")) {
            String[] parts = row.split(" ");
            int[] bounds = new int[parts.length - 1];
            for (int i = 0; i < bounds.length; i++) bounds[i] = Integer.parseInt(parts[i + 1]);
            CALLS.put(parts[0], bounds);
        }
    }
    /** The dear ones for the model, which are called more rarely. */
    private static final List<String> DEAR = List.of("right", "telling", "listen", "astray");
    /** No run goes beyond 512 calls, since nothing is promised then; one step makes some 65 at most. */
    private static final int LAST_STEP = 512 - 65;

    private final Random lot;
    private StrokesHeard x = new StrokesHeard();
    private PlainModel model = new PlainModel();
    private final List<String> trail = new ArrayList<>();
    private boolean right = true;

    private ModelTest(long seed) { lot = new Random(seed); }

    private int call(String name, int... args) throws Exception {
        Object[] boxed = Arrays.stream(args).boxed().toArray();
        Class<?>[] types = new Class<?>[args.length];
        Arrays.fill(types, int.class);
        Method ours = StrokesHeard.class.getMethod(name, types);
        Method theirs = PlainModel.class.getMethod(name, types);
        int due = (Integer) theirs.invoke(model, boxed);
        int got = (Integer) ours.invoke(x, boxed);
        trail.add(name + Arrays.toString(args) + " -> " + got);
        if (got != due && right) {
            right = false;
            System.out.println(String.join("\n", trail));
            System.out.println("  .. due is " + due);
        }
        return got;
    }

    private int argument(int low, int high) {
        int die = lot.nextInt(40);
        if (die == 0) return WILD[lot.nextInt(WILD.length)];
        if (die == 1) return low - 1;
        if (die == 2) return high + 1;
        if (die == 3) return high;
        if (die == 4) return low;
        return low + lot.nextInt(high - low + 1);
    }

    private int[] arguments(String name) {
        int[] bounds = CALLS.get(name);
        int[] args = new int[bounds.length / 2];
        for (int i = 0; i < args.length; i++) args[i] = argument(bounds[2 * i], bounds[2 * i + 1]);
        return args;
    }

    private String expression(String names, int depth) {
        int die = lot.nextInt(depth > 5 ? 2 : 9);
        if (die == 0) return String.valueOf(lot.nextInt(4) == 0 ? lot.nextInt(10000) : lot.nextInt(15));
        if (die == 1 || die == 2) return String.valueOf(names.charAt(lot.nextInt(names.length())));
        if (die == 3) return "!" + expression(names, depth + 1);
        if (die == 4) return "(" + expression(names, depth + 1) + ")";
        char sign = "|&<=>+-*/".charAt(lot.nextInt(9));
        return expression(names, depth + 1) + sign + expression(names, depth + 1);
    }

    private String law() {
        int key = lot.nextInt(3);
        String text = List.of("again", "fee", "fine").get(key) + " " + expression(List.of("oth", "em", "ot").get(key), 0);
        int die = lot.nextInt(8);
        if (die == 0) text = "fine " + "!(".repeat(lot.nextInt(10)) + "!".repeat(lot.nextInt(9)) + "o" + ")".repeat(lot.nextInt(10));
        if (die == 1) text = "fee " + "(".repeat(lot.nextInt(10)) + "e" + ")".repeat(lot.nextInt(10));
        StringBuilder it = new StringBuilder(text);
        for (int i = lot.nextInt(4); i > 0; i--) it.insert(lot.nextInt(it.length() + 1), lot.nextInt(3) == 0 ? "  " : " ");
        if (lot.nextInt(3) == 0) {
            int at = lot.nextInt(it.length());
            String junk = "othem 09()!|&<=>+-*/a?\u00e9\u0000";
            if (lot.nextBoolean()) it.deleteCharAt(at);
            else it.insert(at, junk.charAt(lot.nextInt(junk.length())));
        }
        return it.substring(0, Math.min(96, it.length()));
    }

    private void tellLaw() throws Exception {
        String text = law();
        call("trim", 0);
        for (int i = 0; i < text.length(); i += 12) {
            int[] three = new int[3];
            for (int j = 0; j < 12; j++) {
                three[j / 4] = three[j / 4] << 8 | (i + j < text.length() ? text.charAt(i + j) : lot.nextInt(256));
            }
            call("feed", three);
        }
        if (lot.nextInt(20) != 0) call("trim", text.length());
        trail.add("  (" + text + ")");
        call("text");
    }

    private void tellMinutes() throws Exception {
        int n = 1 + lot.nextInt(30);
        List<Integer> due = model.minutesTold(n);
        int many = lot.nextInt(4) == 0 ? lot.nextInt(61) : due.size();
        int twist = lot.nextInt(3) == 0 ? lot.nextInt(60) : -1;
        for (int i = 0; i < many; i++) {
            int v = i < due.size() ? due.get(i) : 0;
            call("tell", i == twist ? v + 1 : v);
        }
        call("check", n);
    }

    private boolean run(int calls) throws Exception {
        if (lot.nextInt(3) != 0) call("deal", 1 + lot.nextInt(6));
        for (int i = 0; i < calls && right && trail.size() < LAST_STEP; i++) {
            int die = lot.nextInt(60);
            if (die < 5) tellLaw();
            else if (die == 5) tellMinutes();
            else if (die == 6) for (int j = 0; j < 12; j++) call("mark", lot.nextInt(4), lot.nextInt(24), lot.nextInt(5) == 0 ? StrokesHeard.NONE : lot.nextInt(14));
            else if (die == 7) call("ear", lot.nextInt(2), lot.nextInt(2) * 100);
            else {
                List<String> names = new ArrayList<>(CALLS.keySet());
                names.sort(null);
                String name = names.get(lot.nextInt(names.size()));
                if (!DEAR.contains(name) || lot.nextInt(3) == 0) call(name, arguments(name));
            }
        }
        return right;
    }

    /** A night's end: THE MINUTE comes near 9999 and stays there. */
    private boolean lateRun() throws Exception {
        call("deal", 3);
        for (int i = 0; i < 99; i++) call("minutes", 100);
        call("minutes", 80 + lot.nextInt(20));
        call("keep");
        tellMinutes();
        return run(150);
    }

    public static void main(String[] args) throws Exception {
        int runs = args.length > 0 ? Integer.parseInt(args[0]) : 250;
        int from = args.length > 1 ? Integer.parseInt(args[1]) : 1;
        boolean right = true;
        for (int seed = from; seed < from + runs && right; seed++) {
            ModelTest test = new ModelTest(seed);
            right = seed % 25 == 0 ? test.lateRun() : test.run(300);
            if (!right) System.out.println("run by seed " + seed);
        }
        System.out.println(right ? "all runs are as the model's" : "a run is not as the model's");
        if (!right) System.exit(1);
    }
}
