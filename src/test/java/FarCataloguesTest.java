/** Promises 1 to 8: a new object, setCatalogue, put, remove, pass, today, far, told. */
final class FarCataloguesTest {
    public static void main(String[] args) {
        newObject();
        setCatalogue();
        setCatalogueKeepsStampsAndToldDeletes();
        setCatalogueByNever();
        setCatalogueByWhile();
        put();
        remove();
        toldDeletesForAWhile();
        daysOfAToldDeleteRunFromTheRemoval();
        pass();
        passToTheLastDay();
        farAndTold();
        Check.end();
    }

    private static void newObject() {
        Check.run("promise 1", "today() = 0",
            "far(0) = 0", "told(0) = 0", "isOpen(0) = false", "mark(0) = 0", "held(0) = 0", "wrong(0) = 0",
            "far(3) = 0", "told(3) = 0", "isOpen(3) = false", "mark(3) = 0", "held(3) = 0", "wrong(3) = 0",
            "stored(0, 0) = NONE", "stored(3, 19) = NONE",
            "copies(0) = 0", "best(0) = NONE", "copies(9) = 0", "best(9) = NONE",
            "remove(0, 0) = throws.IllegalStateException", "read(0) = throws.IllegalStateException");
        Check.run("promise 1, the clock at first", "pass(7) = 7",
            "put(0, 0, 0, 0) = 7", "setCatalogue(0, 1, FOREVER) = 1", "setCatalogue(3, 1, FOREVER) = 1");
        Check.run("promise 1, the way with deletes at first", "put(3, 0, 0, 0) = 0",
            "remove(3, 0) = true", "pass(100) = 100", "told(3) = 1");
    }

    private static void setCatalogue() {
        Check.run("promise 2",
            "setCatalogue(0, 30, FOREVER) = 1", "setCatalogue(0, 7, WHILE) = 30", "setCatalogue(0, 1, NEVER) = 7",
            "setCatalogue(0, 5, FOREVER) = 1", "setCatalogue(1, 2, FOREVER) = 1", "setCatalogue(3, 3, NEVER) = 1",
            "pass(29) = 29", "put(0, 0, 0, 0) = 25", "put(1, 0, 0, 0) = 28", "put(2, 0, 0, 0) = 29",
            "put(3, 0, 0, 0) = 27", "remove(2, 0) = true", "remove(3, 0) = false");
        Check.run("promise 2, refused",
            "setCatalogue(0, 7, WHILE) = 1",
            "setCatalogue(-1, 1, 0) = throws.IllegalArgumentException",
            "setCatalogue(4, 1, 0) = throws.IllegalArgumentException",
            "setCatalogue(MIN, 1, 0) = throws.IllegalArgumentException",
            "setCatalogue(MAX, 1, 0) = throws.IllegalArgumentException",
            "setCatalogue(0, 0, 0) = throws.IllegalArgumentException",
            "setCatalogue(0, -1, 0) = throws.IllegalArgumentException",
            "setCatalogue(0, 31, 0) = throws.IllegalArgumentException",
            "setCatalogue(0, MIN, 0) = throws.IllegalArgumentException",
            "setCatalogue(0, MAX, 0) = throws.IllegalArgumentException",
            "setCatalogue(0, 1, -1) = throws.IllegalArgumentException",
            "setCatalogue(0, 1, 3) = throws.IllegalArgumentException",
            "setCatalogue(0, 1, MAX) = throws.IllegalArgumentException",
            "put(0, 0, 0, 0) = 0", "pass(8) = 8", "put(0, 0, 0, 0) = 7", "remove(0, 0) = true",
            "setCatalogue(0, 31, NEVER) = throws.IllegalArgumentException", "told(0) = 1", "pass(10) = 18",
            "told(0) = 0", "setCatalogue(0, 1, FOREVER) = 7");
    }

    private static void setCatalogueKeepsStampsAndToldDeletes() {
        Check.run("promise 2, stamps stay", "pass(9) = 9", "put(0, 0, 0, 5) = 9", "put(0, 1, 0, 6) = 9",
            "remove(0, 1) = true", "open(0, false) = 0", "read(0) = 2", "mark(0) = 9",
            "setCatalogue(0, 4, FOREVER) = 1", "wrong(0) = 0", "told(0) = 1", "mark(0) = 9",
            "open(0, false) = 9", "read(0) = 2", "mark(0) = 8");
    }

    private static void setCatalogueByNever() {
        Check.run("promise 2, by NEVER told deletes go",
            "put(0, 0, 0, 0) = 0", "put(0, 1, 0, 0) = 0", "put(1, 0, 0, 0) = 0",
            "remove(0, 0) = true", "remove(1, 0) = true",
            "setCatalogue(0, 1, NEVER) = 1", "told(0) = 0", "told(1) = 1", "far(0) = 1",
            "setCatalogue(0, 1, FOREVER) = 1", "told(0) = 0", "remove(0, 1) = true", "told(0) = 1");
    }

    private static void setCatalogueByWhile() {
        Check.run("promise 2, by WHILE told deletes go whose days have passed",
            "put(0, 0, 0, 0) = 0", "put(0, 1, 0, 0) = 0", "put(0, 2, 0, 0) = 0", "remove(0, 0) = true",
            "pass(1) = 1", "remove(0, 1) = true", "pass(9) = 10", "remove(0, 2) = true", "told(0) = 3",
            "setCatalogue(0, 1, WHILE) = 1", "told(0) = 2", "pass(1) = 11", "told(0) = 1",
            "setCatalogue(0, 1, FOREVER) = 1", "told(0) = 1", "pass(50) = 61", "told(0) = 1",
            "setCatalogue(0, 1, WHILE) = 1", "told(0) = 0", "setCatalogue(0, 1, FOREVER) = 1", "told(0) = 0");
    }

    private static void put() {
        Check.run("promise 3",
            "put(0, 0, 0, 0) = 0", "put(0, 19, 9, 1000) = 0", "far(0) = 2", "put(0, 0, 1, 5) = 0", "far(0) = 2",
            "setCatalogue(0, 10, FOREVER) = 1", "pass(19) = 19", "put(0, 0, 1, 5) = 10",
            "pass(1) = 20", "put(0, 0, 1, 5) = 20", "put(3, 0, 0, 0) = 20", "far(3) = 1", "far(1) = 0",
            "remove(0, 0) = true", "told(0) = 1", "put(0, 0, 2, 6) = 20", "told(0) = 0", "far(0) = 2",
            "open(0, true) = 0", "read(0) = 2", "stored(0, 0) = 6", "stored(0, 19) = 1000", "copies(2) = 1");
        Check.run("promise 3, a change of the same work and value has a new stamp",
            "put(0, 0, 0, 0) = 0", "open(0, false) = 0", "read(0) = 1", "wrong(0) = 0", "pass(1) = 1",
            "put(0, 0, 0, 0) = 1", "wrong(0) = 1");
        Check.run("promise 3, refused",
            "put(-1, 0, 0, 0) = throws.IllegalArgumentException", "put(4, 0, 0, 0) = throws.IllegalArgumentException",
            "put(MAX, 0, 0, 0) = throws.IllegalArgumentException",
            "put(0, -1, 0, 0) = throws.IllegalArgumentException", "put(0, 20, 0, 0) = throws.IllegalArgumentException",
            "put(0, MIN, 0, 0) = throws.IllegalArgumentException",
            "put(0, 0, -1, 0) = throws.IllegalArgumentException", "put(0, 0, 10, 0) = throws.IllegalArgumentException",
            "put(0, 0, 0, -1) = throws.IllegalArgumentException",
            "put(0, 0, 0, 1001) = throws.IllegalArgumentException",
            "put(0, 0, 0, MAX) = throws.IllegalArgumentException", "far(0) = 0",
            "put(0, 0, 3, 7) = 0", "put(0, 0, 10, 9) = throws.IllegalArgumentException",
            "put(0, 0, 4, 1001) = throws.IllegalArgumentException",
            "open(0, false) = 0", "read(0) = 1", "stored(0, 0) = 7", "copies(3) = 1", "copies(4) = 0",
            "remove(0, 0) = true", "put(0, 0, 10, 9) = throws.IllegalArgumentException", "told(0) = 1");
    }

    private static void remove() {
        Check.run("promise 4",
            "setCatalogue(1, 1, WHILE) = 1", "setCatalogue(2, 1, NEVER) = 1",
            "put(0, 4, 0, 0) = 0", "put(1, 4, 0, 0) = 0", "put(2, 4, 0, 0) = 0",
            "remove(0, 4) = true", "remove(1, 4) = true", "remove(2, 4) = false",
            "far(0) = 0", "far(1) = 0", "far(2) = 0", "told(0) = 1", "told(1) = 1", "told(2) = 0",
            "remove(0, 4) = throws.IllegalStateException", "remove(2, 4) = throws.IllegalStateException",
            "told(0) = 1");
        Check.run("promise 4, the stamp of the removal", "setCatalogue(0, 10, FOREVER) = 1",
            "put(0, 0, 0, 0) = 0", "open(0, false) = 0", "read(0) = 1", "pass(25) = 25",
            "open(0, false) = 0", "read(0) = 1", "mark(0) = 20", "remove(0, 0) = true",
            "open(0, false) = 20", "read(0) = 1", "held(0) = 0");
        Check.run("promise 4, a told delete of an earlier stamp is not in the list",
            "put(0, 0, 0, 0) = 0", "remove(0, 0) = true", "pass(1) = 1", "open(0, false) = 0", "read(0) = 1",
            "mark(0) = 1", "open(0, false) = 1", "read(0) = 0");
        Check.run("promise 4, refused",
            "remove(0, 0) = throws.IllegalStateException", "remove(0, -1) = throws.IllegalArgumentException",
            "remove(0, 20) = throws.IllegalArgumentException", "remove(-1, 0) = throws.IllegalArgumentException",
            "remove(4, 0) = throws.IllegalArgumentException", "remove(MIN, MAX) = throws.IllegalArgumentException",
            "put(0, 0, 0, 0) = 0", "remove(0, 1) = throws.IllegalStateException",
            "remove(1, 0) = throws.IllegalStateException", "far(0) = 1", "told(0) = 0");
    }

    private static void toldDeletesForAWhile() {
        Check.run("WHILE, on the 10th day behind it it is gone", "setCatalogue(0, 1, WHILE) = 1",
            "pass(3) = 3", "put(0, 0, 0, 0) = 3", "put(0, 1, 0, 0) = 3", "remove(0, 0) = true",
            "pass(1) = 4", "remove(0, 1) = true", "pass(8) = 12", "told(0) = 2", "pass(1) = 13", "told(0) = 1",
            "pass(1) = 14", "told(0) = 0");
        Check.run("WHILE, all at once", "setCatalogue(3, 1, WHILE) = 1", "put(3, 0, 0, 0) = 0",
            "remove(3, 0) = true", "pass(10) = 10", "told(3) = 0");
        Check.run("WHILE, until the record is put again", "setCatalogue(0, 1, WHILE) = 1", "put(0, 0, 0, 0) = 0",
            "remove(0, 0) = true", "pass(9) = 9", "put(0, 0, 0, 0) = 9", "told(0) = 0", "remove(0, 0) = true",
            "pass(1) = 10", "told(0) = 1", "pass(8) = 18", "told(0) = 1", "pass(1) = 19", "told(0) = 0",
            "far(0) = 0");
        Check.run("FOREVER, until the record is put again", "put(0, 0, 0, 0) = 0", "remove(0, 0) = true",
            "pass(100) = 100", "pass(100) = 200", "told(0) = 1", "put(0, 0, 0, 0) = 200", "told(0) = 0");
    }

    private static void daysOfAToldDeleteRunFromTheRemoval() {
        Check.run("WHILE, by the day and not by the stamp", "setCatalogue(0, 10, WHILE) = 1", "pass(9) = 9",
            "put(0, 0, 0, 0) = 0", "remove(0, 0) = true", "pass(1) = 10", "told(0) = 1", "pass(8) = 18",
            "told(0) = 1", "pass(1) = 19", "told(0) = 0");
    }

    private static void pass() {
        Check.run("promises 5 and 6", "pass(1) = 1", "today() = 1", "pass(100) = 101", "today() = 101",
            "pass(0) = throws.IllegalArgumentException", "pass(-1) = throws.IllegalArgumentException",
            "pass(101) = throws.IllegalArgumentException", "pass(MIN) = throws.IllegalArgumentException",
            "pass(MAX) = throws.IllegalArgumentException", "today() = 101", "pass(2) = 103");
    }

    private static void passToTheLastDay() {
        String[] rows = new String[58];
        for (int k = 0; k < 49; k++) {
            rows[k] = "pass(100) = " + 100 * (k + 1);
        }
        rows[49] = "pass(99) = 4999";
        rows[50] = "pass(2) = throws.IllegalStateException";
        rows[51] = "pass(100) = throws.IllegalStateException";
        rows[52] = "today() = 4999";
        rows[53] = "pass(1) = 5000";
        rows[54] = "pass(1) = throws.IllegalStateException";
        rows[55] = "pass(101) = throws.IllegalArgumentException";
        rows[56] = "pass(0) = throws.IllegalArgumentException";
        rows[57] = "today() = 5000";
        Check.run("promise 5, today is at most 5000", rows);
    }

    private static void farAndTold() {
        Check.run("promises 7 and 8",
            "put(0, 0, 0, 0) = 0", "put(0, 19, 0, 0) = 0", "put(3, 19, 0, 0) = 0", "far(0) = 2", "far(1) = 0",
            "far(3) = 1", "remove(0, 19) = true", "far(0) = 1", "told(0) = 1", "told(3) = 0",
            "remove(0, 0) = true", "far(0) = 0", "told(0) = 2", "remove(3, 19) = true", "told(3) = 1",
            "far(-1) = throws.IllegalArgumentException", "far(4) = throws.IllegalArgumentException",
            "far(MAX) = throws.IllegalArgumentException", "told(-1) = throws.IllegalArgumentException",
            "told(4) = throws.IllegalArgumentException", "told(MIN) = throws.IllegalArgumentException");
    }
}
