import java.util.Arrays;

/** Long runs of mixed calls, each answer compared with the model's; all calls are the same at every start. */
final class ModelTest {
    private static final int RUNS = 1500;
    private static final int CALLS = 512;
    private static final String[] NAMES = {"setCatalogue", "put", "remove", "pass", "today", "far", "told", "open",
        "read", "isOpen", "mark", "stored", "held", "wrong", "copies", "best"};
    // How often each of the names comes, in the same order; the changing calls come most.
    private static final int[] WEIGHTS = {3, 30, 14, 9, 1, 2, 4, 7, 26, 3, 4, 6, 4, 8, 3, 6};
    private static final int[] ODD = {Integer.MIN_VALUE, -1, 0, 1, 3, 4, 9, 10, 19, 20, 30, 31, 100, 101, 1000, 1001,
        Integer.MAX_VALUE};

    private static long state;

    public static void main(String[] args) {
        for (int run = 0; run < RUNS; run++) {
            state = 7919L * run + 17;
            compare(run);
        }
        Check.end();
    }

    private static void compare(int run) {
        CatalogueHarvester x = new CatalogueHarvester();
        Model model = new Model();
        int catalogues = 1 + run % 4;
        int records = 3 + run % 18;
        int days = run % 10 == 9 ? 100 : 3 + run % 11;
        for (int k = 0; k < CALLS; k++) {
            String name = nextName();
            int[] a = arguments(name, catalogues, records, days);
            String call = written(name, a);
            Check.same("run " + run + ", call " + k + ": " + call, Calls.answer(x, call), model.answer(name, a));
        }
    }

    private static int below(int bound) {
        state = state * 6364136223846793005L + 1442695040888963407L;
        return (int) ((state >>> 33) % bound);
    }

    private static String nextName() {
        int left = below(Arrays.stream(WEIGHTS).sum());
        int k = 0;
        while (left >= WEIGHTS[k]) {
            left -= WEIGHTS[k++];
        }
        return NAMES[k];
    }

    private static int[] arguments(String name, int catalogues, int records, int days) {
        int[] a = inRange(name, catalogues, records, days);
        if (a.length > 0 && below(60) == 0) {
            int k = below(a.length);
            a[k] = name.equals("open") && k == 1 ? a[k] : ODD[below(ODD.length)];
        }
        return a;
    }

    private static int[] inRange(String name, int catalogues, int records, int days) {
        int c = below(catalogues);
        switch (name) {
            case "setCatalogue": return new int[] {c, 1 + below(below(2) == 0 ? 4 : 30), below(3)};
            case "put": return new int[] {c, below(records), below(4), below(3)};
            case "remove": case "stored": return new int[] {c, below(records)};
            case "pass": return new int[] {1 + below(days)};
            case "today": return new int[] {};
            case "open": return new int[] {c, below(2)};
            case "copies": case "best": return new int[] {below(4)};
            default: return new int[] {c};
        }
    }

    private static String written(String name, int[] a) {
        String text = Arrays.toString(a);
        if (name.equals("open")) {
            text = "[" + a[0] + ", " + (a[1] == 1) + "]";
        }
        return name + "(" + text.substring(1, text.length() - 1) + ")";
    }
}
