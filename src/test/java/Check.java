import java.util.List;

/** Counts what is wrong in a test and ends it with exit code 1 if there was anything. */
final class Check {
    // What an object answers after its 512th call is free, so a run must not be longer.
    private static final int MOST_CALLS = 512;

    private static int wrong = 0;

    private Check() {
    }

    static void same(String where, Object got, Object due) {
        if (!got.equals(due)) {
            wrong++;
            System.out.println(where + " answered " + got + ", due is " + due);
        }
    }

    /**
     * Makes the calls of rows such as "pass(3) = 3" on a new object. A second object gets them without
     * those that are refused: it must answer the same, as a refused call changes nothing.
     */
    static void run(String name, String... rows) {
        CatalogueHarvester whole = new CatalogueHarvester();
        CatalogueHarvester unrefused = new CatalogueHarvester();
        for (int k = 0; k < rows.length; k++) {
            int sign = rows[k].indexOf(" = ");
            String call = rows[k].substring(0, sign);
            String due = rows[k].substring(sign + 3).replace("NONE", "-1");
            String where = name + ", row " + (k + 1) + ": " + call;
            same(where, Calls.answer(whole, call), due);
            if (!due.startsWith("throws.")) {
                same(where + " without the refused calls", Calls.answer(unrefused, call), due);
            }
        }
        List<String> left = Calls.snapshot(unrefused);
        same(name + ", at most 512 calls", rows.length + left.size() <= MOST_CALLS, true);
        same(name + ", what a refused call left", Calls.snapshot(whole), left);
    }

    static void end() {
        System.exit(wrong == 0 ? 0 : 1);
    }
}
