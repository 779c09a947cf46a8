import java.util.ArrayList;
import java.util.List;
import java.util.function.IntFunction;

/** Collects rows such as "read(0) = 3" for Check.run, those that are alike with a counter. */
final class Rows {
    private final List<String> rows = new ArrayList<>();
    private int today = 0;

    Rows add(String... more) {
        rows.addAll(List.of(more));
        return this;
    }

    /** A row for each number from the first to the last one. */
    Rows each(int first, int last, IntFunction<String> row) {
        for (int k = first; k <= last; k++) {
            rows.add(row.apply(k));
        }
        return this;
    }

    /** Puts the records from the first to the last one of a catalogue, each with work 0 and its number as value. */
    Rows putEach(int catalogue, int first, int last, int stamp) {
        return each(first, last, r -> "put(" + catalogue + ", " + r + ", 0, " + r + ") = " + stamp);
    }

    Rows removeEach(int catalogue, int first, int last, boolean isTold) {
        return each(first, last, r -> "remove(" + catalogue + ", " + r + ") = " + isTold);
    }

    /** The call, with # as its argument, is refused for the numbers that lie just and far outside. */
    Rows refuse(String call, int least, int greatest) {
        for (String outside : new String[] {"MIN", "" + (least - 1), "" + (greatest + 1), "MAX"}) {
            add(call.replace("#", outside) + " = throws.IllegalArgumentException");
        }
        return this;
    }

    /** Reads the pages of a list with so many records and told deletes, the last of which closes it. */
    Rows readAll(int catalogue, int listed) {
        int left = listed;
        do {
            int page = Math.min(3, left);
            left -= page;
            add("read(" + catalogue + ") = " + page, "isOpen(" + catalogue + ") = " + (left > 0));
        } while (left > 0);
        return this;
    }

    /** Passes days until it is that day; only where no row of its own passes days. */
    Rows to(int day) {
        while (today < day) {
            int days = Math.min(100, day - today);
            today += days;
            rows.add("pass(" + days + ") = " + today);
        }
        return this;
    }

    void check(String name) {
        Check.run(name, rows.toArray(new String[0]));
    }
}
