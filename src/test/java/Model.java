import java.util.ArrayList;
import java.util.Comparator;
import java.util.HashMap;
import java.util.HashSet;
import java.util.List;
import java.util.Map;
import java.util.Set;
import java.util.TreeMap;

/** The document told a second time, in the plainest words of the Java library, for comparison. */
final class Model {
    private record Row(int work, int value, int stamp) {
    }

    private record Told(int stamp, int day) {
    }

    private record Item(int stamp, int number) {
    }

    private static final class Round {
        boolean full;
        int first;
        int openedOn;
        Integer lastPageOn;
        Item place;
        Set<Integer> met = new HashSet<>();
    }

    private static final class Side {
        int unit = 1;
        int deletes = 0;
        int mark = 0;
        Map<Integer, Row> there = new TreeMap<>();
        Map<Integer, Told> told = new TreeMap<>();
        Map<Integer, Row> store = new TreeMap<>();
        Round round;
    }

    private final Map<Integer, Side> sides = new HashMap<>();
    private int today = 0;

    Model() {
        for (int c = 0; c < 4; c++) {
            sides.put(c, new Side());
        }
    }

    /** The answer to a call, as Calls.answer writes it. */
    String answer(String name, int[] a) {
        if (isOutside(name, a)) {
            return "throws.IllegalArgumentException";
        }
        Side s = sides.get(a.length == 0 ? 0 : a[0]);
        switch (name) {
            case "setCatalogue": return "" + setCatalogue(s, a[1], a[2]);
            case "put": return "" + put(s, a[1], new Row(a[2], a[3], today / s.unit * s.unit));
            case "remove": return remove(s, a[1]);
            case "pass": return pass(a[0]);
            case "today": return "" + today;
            case "far": return "" + s.there.size();
            case "told": return "" + s.told.size();
            case "open": return "" + begin(s, a[1] == 1).first;
            case "read": return s.round == null ? "throws.IllegalStateException" : "" + read(s);
            case "isOpen": return "" + (s.round != null);
            case "mark": return "" + s.mark;
            case "stored": return "" + (s.store.containsKey(a[1]) ? s.store.get(a[1]).value : -1);
            case "held": return "" + s.store.size();
            case "wrong": return "" + wrong(s);
            case "copies": return "" + ofWork(a[0]).size();
            default: return "" + best(a[0]);
        }
    }

    private static boolean isOutside(String name, int[] a) {
        int[] least = {0, 0, 0, 0};
        int[] most = {3, 19, 9, 1000};
        switch (name) {
            case "setCatalogue": least[1] = 1; most[1] = 30; most[2] = 2; break;
            case "pass": least[0] = 1; most[0] = 100; break;
            case "open": most[1] = 1; break;
            case "copies": case "best": most[0] = 9; break;
            default: break;
        }
        for (int k = 0; k < a.length; k++) {
            if (a[k] < least[k] || a[k] > most[k]) {
                return true;
            }
        }
        return false;
    }

    private int setCatalogue(Side s, int unit, int deletes) {
        int before = s.unit;
        s.unit = unit;
        s.deletes = deletes;
        dropTold(s);
        return before;
    }

    private void dropTold(Side s) {
        s.told.values().removeIf(t -> s.deletes == 2 || s.deletes == 1 && t.day + 10 <= today);
    }

    private int put(Side s, int record, Row row) {
        s.told.remove(record);
        s.there.put(record, row);
        return row.stamp;
    }

    private String remove(Side s, int record) {
        if (s.there.remove(record) == null) {
            return "throws.IllegalStateException";
        }
        if (s.deletes != 2) {
            s.told.put(record, new Told(today / s.unit * s.unit, today));
        }
        return "" + s.told.containsKey(record);
    }

    private String pass(int days) {
        if (today + days > 5000) {
            return "throws.IllegalStateException";
        }
        for (int k = 0; k < days; k++) {
            today++;
            sides.values().forEach(this::dropTold);
        }
        return "" + today;
    }

    private Round begin(Side s, boolean full) {
        s.round = new Round();
        s.round.full = full;
        s.round.first = full ? 0 : s.mark;
        s.round.openedOn = today;
        return s.round;
    }

    private int read(Side s) {
        int since = s.round.lastPageOn == null ? s.round.openedOn : s.round.lastPageOn;
        Round round = today - since > 5 ? begin(s, s.round.full) : s.round;
        List<Item> left = left(s, round);
        List<Item> page = left.subList(0, Math.min(3, left.size()));
        for (Item item : page) {
            if (s.there.containsKey(item.number)) {
                s.store.put(item.number, s.there.get(item.number));
            } else {
                s.store.remove(item.number);
            }
            round.met.add(item.number);
            round.place = item;
        }
        round.lastPageOn = today;
        if (page.size() == left.size()) {
            s.round = null;
            s.mark = round.openedOn / s.unit * s.unit;
            s.store.keySet().removeIf(number -> round.full && !round.met.contains(number));
        }
        return page.size();
    }

    private static List<Item> left(Side s, Round round) {
        Comparator<Item> order = Comparator.comparingInt(Item::stamp).thenComparingInt(Item::number);
        List<Item> items = new ArrayList<>();
        s.there.forEach((number, row) -> items.add(new Item(row.stamp, number)));
        s.told.forEach((number, told) -> items.add(new Item(told.stamp, number)));
        items.removeIf(item -> item.stamp < round.first);
        items.removeIf(item -> round.place != null && order.compare(item, round.place) <= 0);
        items.sort(order);
        return items;
    }

    private static int wrong(Side s) {
        Set<Integer> numbers = new HashSet<>(s.there.keySet());
        numbers.addAll(s.store.keySet());
        numbers.removeIf(number -> s.there.containsKey(number) && s.there.get(number).equals(s.store.get(number)));
        return numbers.size();
    }

    private Map<Integer, Row> ofWork(int work) {
        Map<Integer, Row> rows = new TreeMap<>();
        sides.forEach((c, s) -> s.store.forEach((number, row) -> rows.put(100 * c + number, row)));
        rows.values().removeIf(row -> row.work != work);
        return rows;
    }

    private int best(int work) {
        Map<Integer, Row> rows = ofWork(work);
        int greatest = rows.values().stream().mapToInt(Row::stamp).max().orElse(0);
        return rows.keySet().stream().filter(k -> rows.get(k).stamp == greatest).findFirst().orElse(-1);
    }
}
