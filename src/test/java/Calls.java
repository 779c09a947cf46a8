import java.util.ArrayList;
import java.util.List;

/** Makes calls that are written as text, such as "put(0, 3, 1, 100)", and tells their answers as text. */
final class Calls {
    private Calls() {
    }

    /** The answer, or "throws." and the name of what the call threw. */
    static String answer(CatalogueHarvester x, String call) {
        try {
            return make(x, call);
        } catch (RuntimeException e) {
            return "throws." + e.getClass().getSimpleName();
        }
    }

    private static String make(CatalogueHarvester x, String call) {
        String name = call.substring(0, call.indexOf('('));
        String[] a = call.substring(call.indexOf('(') + 1, call.indexOf(')')).split(", ");
        switch (name) {
            case "setCatalogue": return "" + x.setCatalogue(number(a[0]), number(a[1]), number(a[2]));
            case "put": return "" + x.put(number(a[0]), number(a[1]), number(a[2]), number(a[3]));
            case "remove": return "" + x.remove(number(a[0]), number(a[1]));
            case "pass": return "" + x.pass(number(a[0]));
            case "today": return "" + x.today();
            case "far": return "" + x.far(number(a[0]));
            case "told": return "" + x.told(number(a[0]));
            case "open": return "" + x.open(number(a[0]), a[1].equals("true"));
            case "read": return "" + x.read(number(a[0]));
            case "isOpen": return "" + x.isOpen(number(a[0]));
            case "mark": return "" + x.mark(number(a[0]));
            case "stored": return "" + x.stored(number(a[0]), number(a[1]));
            case "held": return "" + x.held(number(a[0]));
            case "wrong": return "" + x.wrong(number(a[0]));
            case "copies": return "" + x.copies(number(a[0]));
            case "best": return "" + x.best(number(a[0]));
            default: throw new AssertionError("no such call: " + call);
        }
    }

    private static int number(String text) {
        switch (text) {
            case "NONE": return CatalogueHarvester.NONE;
            case "FOREVER": return CatalogueHarvester.FOREVER;
            case "WHILE": return CatalogueHarvester.WHILE;
            case "NEVER": return CatalogueHarvester.NEVER;
            case "MIN": return Integer.MIN_VALUE;
            case "MAX": return Integer.MAX_VALUE;
            default: return Integer.parseInt(text);
        }
    }

    /** All that can be asked for without changing anything. */
    static List<String> snapshot(CatalogueHarvester x) {
        List<String> rows = new ArrayList<>();
        ask(x, "today()", rows);
        for (int c = 0; c < 4; c++) {
            for (String name : new String[] {"far", "told", "isOpen", "mark", "held", "wrong"}) {
                ask(x, name + "(" + c + ")", rows);
            }
            for (int r = 0; r < 20; r++) {
                ask(x, "stored(" + c + ", " + r + ")", rows);
            }
        }
        for (int w = 0; w < 10; w++) {
            ask(x, "copies(" + w + ")", rows);
            ask(x, "best(" + w + ")", rows);
        }
        return rows;
    }

    private static void ask(CatalogueHarvester x, String call, List<String> rows) {
        rows.add(call + " = " + answer(x, call));
    }
}
