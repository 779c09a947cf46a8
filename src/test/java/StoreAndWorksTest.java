/** Promises 13 to 17: stored, held, wrong, copies, best. */
final class StoreAndWorksTest {
    public static void main(String[] args) {
        stored();
        held();
        wrong();
        copies();
        best();
        bestOfSeveral();
        worksOfTheStoreAlone();
        refused();
        Check.end();
    }

    private static void stored() {
        Check.run("promise 13", "put(2, 0, 0, 0) = 0", "put(2, 19, 0, 1000) = 0", "stored(2, 0) = NONE",
            "open(2, false) = 0", "stored(2, 19) = NONE", "read(2) = 2", "stored(2, 0) = 0",
            "stored(2, 19) = 1000", "stored(1, 0) = NONE", "stored(2, 1) = NONE", "put(2, 0, 0, 8) = 0",
            "stored(2, 0) = 0", "open(2, false) = 0", "read(2) = 2", "stored(2, 0) = 8", "remove(2, 0) = true",
            "stored(2, 0) = 8", "open(2, false) = 0", "read(2) = 2", "stored(2, 0) = NONE");
    }

    private static void held() {
        Check.run("promise 14", "put(0, 0, 0, 0) = 0", "put(0, 19, 0, 0) = 0", "put(3, 0, 0, 0) = 0",
            "held(0) = 0", "open(0, false) = 0", "read(0) = 2", "held(0) = 2", "held(3) = 0",
            "open(3, false) = 0", "read(3) = 1", "held(3) = 1", "remove(0, 0) = true", "held(0) = 2",
            "open(0, false) = 0", "read(0) = 2", "held(0) = 1", "held(1) = 0");
    }

    private static void wrong() {
        Check.run("promise 15", "put(0, 0, 1, 5) = 0", "put(0, 19, 1, 5) = 0", "put(1, 0, 1, 5) = 0",
            "wrong(0) = 2", "wrong(1) = 1", "wrong(2) = 0", "open(0, false) = 0", "read(0) = 2", "wrong(0) = 0",
            "put(0, 0, 2, 5) = 0", "wrong(0) = 1", "put(0, 0, 1, 5) = 0", "wrong(0) = 0",
            "put(0, 0, 1, 6) = 0", "wrong(0) = 1", "put(0, 0, 1, 5) = 0", "wrong(0) = 0",
            "remove(0, 0) = true", "wrong(0) = 1", "remove(0, 19) = true", "wrong(0) = 2",
            "open(0, false) = 0", "read(0) = 2", "wrong(0) = 0", "wrong(1) = 1");
        Check.run("promise 15, the stamp alone", "put(0, 0, 1, 5) = 0", "open(0, false) = 0", "read(0) = 1",
            "pass(1) = 1", "wrong(0) = 0", "put(0, 0, 1, 5) = 1", "wrong(0) = 1");
        Check.run("promise 15, what is neither there nor in the store", "put(0, 0, 1, 5) = 0", "remove(0, 0) = true",
            "wrong(0) = 0", "put(0, 0, 1, 5) = 0", "open(0, false) = 0", "read(0) = 1", "remove(0, 0) = true",
            "open(0, false) = 0", "read(0) = 1", "wrong(0) = 0");
    }

    private static void copies() {
        Check.run("promise 16", "put(0, 0, 0, 0) = 0", "put(0, 1, 9, 0) = 0", "put(0, 19, 0, 0) = 0",
            "put(1, 0, 0, 0) = 0", "put(3, 4, 0, 0) = 0", "copies(0) = 0", "open(0, false) = 0", "read(0) = 3",
            "copies(0) = 2", "copies(9) = 1", "copies(5) = 0", "open(1, false) = 0", "read(1) = 1",
            "open(3, false) = 0", "read(3) = 1", "copies(0) = 4", "put(0, 0, 5, 0) = 0", "copies(0) = 4",
            "copies(5) = 0", "open(0, false) = 0", "read(0) = 3", "copies(0) = 3", "copies(5) = 1",
            "remove(3, 4) = true", "open(3, false) = 0", "read(3) = 1", "copies(0) = 2");
    }

    private static void best() {
        Check.run("promise 17, the greatest stamp", "put(0, 0, 1, 9) = 0", "put(3, 19, 1, 0) = 0", "pass(1) = 1",
            "put(1, 5, 1, 0) = 1", "put(2, 6, 2, 0) = 1", "open(0, false) = 0", "read(0) = 1", "best(1) = 0",
            "open(3, false) = 0", "read(3) = 1", "best(1) = 0", "open(1, false) = 0", "read(1) = 1",
            "best(1) = 105", "open(2, false) = 0", "read(2) = 1", "best(1) = 105", "best(2) = 206",
            "best(0) = NONE", "pass(1) = 2", "put(3, 19, 1, 0) = 2", "best(1) = 105", "open(3, false) = 1",
            "read(3) = 1", "best(1) = 319", "remove(3, 19) = true", "open(3, false) = 2", "read(3) = 1",
            "best(1) = 105");
        Check.run("promise 17, of the records of a catalogue the one with the greatest stamp", "put(0, 3, 4, 0) = 0",
            "pass(1) = 1", "put(0, 8, 4, 0) = 1", "open(0, false) = 0", "read(0) = 2", "best(4) = 8");
    }

    private static void bestOfSeveral() {
        Check.run("promise 17, of several the lowest catalogue, then the lowest record", "put(0, 19, 1, 0) = 0",
            "put(0, 7, 1, 0) = 0", "put(1, 0, 1, 0) = 0", "put(2, 4, 1, 0) = 0", "put(2, 3, 1, 0) = 0",
            "open(2, false) = 0", "read(2) = 2", "best(1) = 203", "open(1, false) = 0", "read(1) = 1",
            "best(1) = 100", "open(0, false) = 0", "read(0) = 2", "best(1) = 7", "remove(0, 7) = true",
            "open(0, false) = 0", "read(0) = 2", "best(1) = 19");
    }

    private static void worksOfTheStoreAlone() {
        Check.run("promises 16 and 17, as the store has them", "put(0, 0, 1, 0) = 0", "put(1, 0, 1, 0) = 0",
            "open(0, false) = 0", "read(0) = 1", "open(1, false) = 0", "read(1) = 1", "pass(1) = 1",
            "put(1, 0, 1, 0) = 1", "best(1) = 0", "remove(0, 0) = true", "best(1) = 0", "copies(1) = 2",
            "open(0, false) = 0", "read(0) = 1", "best(1) = 100", "copies(1) = 1");
    }

    private static void refused() {
        Check.run("promises 13 to 17, refused",
            "stored(-1, 0) = throws.IllegalArgumentException", "stored(4, 0) = throws.IllegalArgumentException",
            "stored(0, -1) = throws.IllegalArgumentException", "stored(0, 20) = throws.IllegalArgumentException",
            "stored(MIN, 0) = throws.IllegalArgumentException", "stored(0, MAX) = throws.IllegalArgumentException",
            "held(-1) = throws.IllegalArgumentException", "held(4) = throws.IllegalArgumentException",
            "held(MAX) = throws.IllegalArgumentException",
            "wrong(-1) = throws.IllegalArgumentException", "wrong(4) = throws.IllegalArgumentException",
            "wrong(MIN) = throws.IllegalArgumentException",
            "copies(-1) = throws.IllegalArgumentException", "copies(10) = throws.IllegalArgumentException",
            "copies(MAX) = throws.IllegalArgumentException",
            "best(-1) = throws.IllegalArgumentException", "best(10) = throws.IllegalArgumentException",
            "best(MIN) = throws.IllegalArgumentException");
    }
}
