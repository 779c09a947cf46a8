import java.util.ArrayList;
import java.util.List;

/**
 * Each call that is refused throws what the document names and changes nothing: in several states an object
 * that gets it is compared with one that does not, by all that can be asked and by the calls that follow.
 */
final class RefusedCallsTest {
    private static final String ARGUMENT = "throws.IllegalArgumentException";
    private static final String STATE = "throws.IllegalStateException";
    private static final String[] NO_CATALOGUE = {"-1", "4", "MIN", "MAX"};
    private static final String[] NO_RECORD = {"-1", "20", "MIN", "MAX"};
    private static final String[] NO_WORK = {"-1", "10", "MIN", "MAX"};
    private static final String[] NO_VALUE = {"-1", "1001", "MIN", "MAX"};
    private static final String[] NO_UNIT = {"0", "31", "-1", "MIN", "MAX"};
    private static final String[] NO_WAY = {"-1", "3", "MIN", "MAX"};
    private static final String[] NO_DAYS = {"0", "101", "-1", "MIN", "MAX"};

    private static final String[] NEW = {};
    // On its last day, 18, the last page of list 0 is 5 days old and list 1 was opened 4 days ago, and a told
    // delete goes on the next day: so one more day, page, put, removal or other clock would show.
    private static final String[] IN_USE = {
        "setCatalogue(0, 7, WHILE)", "setCatalogue(1, 30, NEVER)", "setCatalogue(3, 2, FOREVER)", "pass(9)",
        "put(0, 0, 0, 10)", "put(0, 1, 1, 11)", "put(0, 2, 2, 12)", "put(0, 3, 3, 13)", "put(0, 4, 4, 14)",
        "put(1, 0, 0, 20)", "put(1, 1, 1, 21)", "put(1, 19, 9, 1000)", "put(2, 5, 5, 25)", "put(3, 6, 6, 26)",
        "open(1, false)", "read(1)", "remove(1, 1)", "open(3, false)", "read(3)", "put(3, 6, 7, 27)", "remove(0, 2)",
        "open(0, true)", "pass(4)", "read(0)", "pass(1)", "open(1, true)", "remove(0, 3)", "pass(4)"};
    private static final String[] REFUSED_STATE_IN_USE = {"remove(0, 2)", "remove(0, 3)", "remove(0, 19)",
        "remove(1, 1)", "remove(2, 0)", "remove(3, 0)", "read(2)", "read(3)"};

    public static void main(String[] args) {
        List<String> outside = callsWithAnArgumentOutside();
        changeNothing("a new object", NEW, outside, ARGUMENT);
        changeNothing("a new object", NEW, List.of("remove(0, 0)", "remove(3, 19)", "read(0)", "read(3)"), STATE);
        changeNothing("in use", IN_USE, outside, ARGUMENT);
        changeNothing("in use", IN_USE, List.of(REFUSED_STATE_IN_USE), STATE);
        String[] nearTheEnd = inUseOn(4950);
        changeNothing("near the last day", nearTheEnd, outside, ARGUMENT);
        changeNothing("near the last day", nearTheEnd, List.of("pass(51)", "pass(52)", "pass(100)"), STATE);
        String[] atTheEnd = inUseOn(5000);
        changeNothing("the last day", atTheEnd, outside, ARGUMENT);
        changeNothing("the last day", atTheEnd, List.of("pass(1)", "pass(2)", "pass(100)"), STATE);
        Check.end();
    }

    private static List<String> callsWithAnArgumentOutside() {
        List<String> calls = new ArrayList<>();
        addEach(calls, "setCatalogue(#, 5, FOREVER)", NO_CATALOGUE);
        addEach(calls, "setCatalogue(0, #, FOREVER)", NO_UNIT);
        addEach(calls, "setCatalogue(3, #, NEVER)", NO_UNIT);
        addEach(calls, "setCatalogue(0, 5, #)", NO_WAY);
        addEach(calls, "put(#, 0, 0, 0)", NO_CATALOGUE);
        addEach(calls, "put(0, #, 0, 0)", NO_RECORD);
        addEach(calls, "put(0, 2, #, 0)", NO_WORK);
        addEach(calls, "put(0, 0, 0, #)", NO_VALUE);
        addEach(calls, "remove(#, 0)", NO_CATALOGUE);
        addEach(calls, "remove(0, #)", NO_RECORD);
        addEach(calls, "pass(#)", NO_DAYS);
        addEach(calls, "open(#, false)", NO_CATALOGUE);
        addEach(calls, "open(#, true)", NO_CATALOGUE);
        addEach(calls, "stored(#, 0)", NO_CATALOGUE);
        addEach(calls, "stored(0, #)", NO_RECORD);
        for (String name : new String[] {"far", "told", "read", "isOpen", "mark", "held", "wrong"}) {
            addEach(calls, name + "(#)", NO_CATALOGUE);
        }
        addEach(calls, "copies(#)", NO_WORK);
        addEach(calls, "best(#)", NO_WORK);
        calls.addAll(List.of("setCatalogue(4, 0, 3)", "put(4, 20, 10, 1001)", "remove(-1, 20)", "stored(4, -1)"));
        return calls;
    }

    private static void addEach(List<String> calls, String call, String[] arguments) {
        for (String argument : arguments) {
            calls.add(call.replace("#", argument));
        }
    }

    /** The calls of IN_USE, ahead of them those that bring their last day to that day. */
    private static String[] inUseOn(int day) {
        List<String> calls = new ArrayList<>();
        int left = day - 18;
        while (left > 0) {
            calls.add("pass(" + Math.min(100, left) + ")");
            left -= Math.min(100, left);
        }
        calls.addAll(List.of(IN_USE));
        return calls.toArray(new String[0]);
    }

    private static void changeNothing(String state, String[] ahead, List<String> refused, String due) {
        List<String> left = answers(objectIn(ahead));
        for (String call : refused) {
            CatalogueHarvester x = objectIn(ahead);
            Check.same(state + ": " + call, Calls.answer(x, call), due);
            Check.same(state + ": what " + call + " left", answers(x), left);
        }
    }

    private static CatalogueHarvester objectIn(String[] ahead) {
        CatalogueHarvester x = new CatalogueHarvester();
        for (String call : ahead) {
            Check.same(call + " is refused", Calls.answer(x, call).startsWith("throws."), false);
        }
        return x;
    }

    /** What can be asked, then calls that show the clocks, the ways with deletes, the tokens, places and rounds. */
    private static List<String> answers(CatalogueHarvester x) {
        List<String> answers = new ArrayList<>(Calls.snapshot(x));
        addAnswers(x, answers, "put(#, 10, 9, 900)", "remove(#, 10)", "told(#)");
        addAnswer(x, answers, "pass(1)");
        addAnswers(x, answers, "read(#)", "told(#)", "isOpen(#)", "mark(#)", "held(#)", "wrong(#)");
        addAnswer(x, answers, "pass(5)");
        addAnswers(x, answers, "told(#)", "read(#)", "read(#)", "setCatalogue(#, 3, WHILE)", "told(#)",
            "open(#, false)");
        answers.addAll(Calls.snapshot(x));
        return answers;
    }

    private static void addAnswers(CatalogueHarvester x, List<String> answers, String... calls) {
        for (String call : calls) {
            for (int c = 0; c < 4; c++) {
                addAnswer(x, answers, call.replace("#", "" + c));
            }
        }
    }

    private static void addAnswer(CatalogueHarvester x, List<String> answers, String call) {
        answers.add(call + " = " + Calls.answer(x, call));
    }
}
