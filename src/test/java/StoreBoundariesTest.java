/** The terms, "Works" and promises 13 to 17: a test for each sentence that names a boundary case. */
final class StoreBoundariesTest {
    public static void main(String[] args) {
        storedFromTheLeastToTheGreatest();
        everyRecordOfEveryCatalogue();
        heldFromNoneToAll();
        wrongFromNoneToAll();
        wrongByOneOfWorkValueAndStamp();
        wrongInTheStoreAndNotThere();
        wrongNeitherThereNorInTheStore();
        copiesFromNoneToAll();
        worksFromTheLeastToTheGreatest();
        bestOfNoneAndOfOne();
        bestByTheGreatestStamp();
        bestOfSeveralByTheLowestCatalogue();
        bestOfSeveralByTheLowestNumber();
        bestOfAFullStore();
        Check.end();
    }

    private static void storedFromTheLeastToTheGreatest() {
        new Rows().add("put(0, 0, 0, 0) = 0", "put(3, 19, 0, 1000) = 0", "stored(0, 0) = NONE", "stored(3, 19) = NONE",
            "open(0, false) = 0", "read(0) = 1", "open(3, false) = 0", "read(3) = 1", "stored(0, 0) = 0",
            "stored(3, 19) = 1000", "stored(0, 1) = NONE", "stored(3, 18) = NONE",
            "stored(-1, 0) = throws.IllegalArgumentException", "stored(4, 0) = throws.IllegalArgumentException",
            "stored(0, -1) = throws.IllegalArgumentException", "stored(0, 20) = throws.IllegalArgumentException",
            "stored(3, 20) = throws.IllegalArgumentException").check("stored: catalogue 0 to 3, record 0 to 19");
    }

    private static void everyRecordOfEveryCatalogue() {
        Rows rows = new Rows()
            .each(0, 79, k -> "put(" + k / 20 + ", " + k % 20 + ", " + k % 10 + ", " + (921 + k) + ") = 0");
        for (int c = 0; c < 4; c++) {
            rows.add("open(" + c + ", false) = 0").readAll(c, 20);
        }
        rows.each(0, 79, k -> "stored(" + k / 20 + ", " + k % 20 + ") = " + (921 + k))
            .each(0, 9, w -> "copies(" + w + ") = 8").each(0, 9, w -> "best(" + w + ") = " + w)
            .check("catalogues 0 to 3, records 0 to 19 of each, works 0 to 9");
    }

    private static void heldFromNoneToAll() {
        new Rows().add("held(-1) = throws.IllegalArgumentException", "held(4) = throws.IllegalArgumentException",
            "held(3) = 0").putEach(3, 0, 19, 0).add("held(3) = 0", "open(3, false) = 0", "read(3) = 3", "held(3) = 3",
            "read(3) = 3", "read(3) = 3", "read(3) = 3", "read(3) = 3", "read(3) = 3", "held(3) = 18", "read(3) = 2",
            "held(3) = 20", "held(0) = 0", "remove(3, 19) = true", "held(3) = 20", "open(3, false) = 0").readAll(3, 20)
            .add("held(3) = 19").check("how many records of a catalogue the store holds");
    }

    private static void wrongFromNoneToAll() {
        new Rows().add("wrong(-1) = throws.IllegalArgumentException", "wrong(4) = throws.IllegalArgumentException",
            "wrong(0) = 0").putEach(0, 0, 19, 0).add("wrong(0) = 20", "wrong(3) = 0", "open(0, false) = 0",
            "read(0) = 3", "wrong(0) = 17", "read(0) = 3", "read(0) = 3", "read(0) = 3", "read(0) = 3",
            "read(0) = 3", "wrong(0) = 2", "read(0) = 2", "wrong(0) = 0").removeEach(0, 0, 19, true)
            .add("wrong(0) = 20").check("how many records are wrong, none to all");
        new Rows().putEach(0, 0, 9, 0).add("open(0, false) = 0").readAll(0, 10).removeEach(0, 0, 9, true)
            .putEach(0, 10, 19, 0).add("wrong(0) = 20", "far(0) = 10", "held(0) = 10")
            .check("10 gone and 10 new are 20");
    }

    private static void wrongByOneOfWorkValueAndStamp() {
        new Rows().add("put(0, 0, 9, 1000) = 0", "open(0, false) = 0", "read(0) = 1", "wrong(0) = 0",
            "put(0, 0, 8, 1000) = 0", "wrong(0) = 1", "put(0, 0, 9, 1000) = 0", "wrong(0) = 0").check("the work alone");
        new Rows().add("put(0, 0, 9, 1000) = 0", "open(0, false) = 0", "read(0) = 1", "put(0, 0, 9, 999) = 0",
            "wrong(0) = 1", "put(0, 0, 9, 1000) = 0", "wrong(0) = 0").check("the value alone");
        new Rows().add("put(0, 0, 9, 1000) = 0", "open(0, false) = 0", "read(0) = 1").to(1).add("wrong(0) = 0",
            "put(0, 0, 9, 1000) = 1", "wrong(0) = 1").check("the stamp alone");
    }

    private static void wrongInTheStoreAndNotThere() {
        new Rows().add("put(0, 0, 0, 0) = 0", "open(0, false) = 0", "read(0) = 1", "remove(0, 0) = true",
            "wrong(0) = 1", "put(0, 0, 0, 0) = 0", "wrong(0) = 0").check("in the store and not there");
    }

    private static void wrongNeitherThereNorInTheStore() {
        new Rows().add("put(0, 0, 0, 0) = 0", "remove(0, 0) = true", "wrong(0) = 0", "put(0, 1, 1, 1) = 0",
            "open(0, false) = 0", "read(0) = 2", "remove(0, 1) = true", "open(0, false) = 0", "read(0) = 2",
            "put(0, 1, 2, 2) = 0", "remove(0, 1) = true", "wrong(0) = 0").check("neither there nor in the store");
    }

    private static void copiesFromNoneToAll() {
        Rows rows = new Rows().add("copies(9) = 0");
        for (int c = 0; c < 4; c++) {
            int catalogue = c;
            rows.each(0, 19, r -> "put(" + catalogue + ", " + r + ", 9, 0) = 0").add("copies(9) = " + 20 * c,
                "open(" + c + ", false) = 0").readAll(c, 20).add("copies(9) = " + 20 * (c + 1), "copies(8) = 0");
        }
        rows.add("copies(0) = 0").check("the number of records that make a work, none to 80");
    }

    private static void worksFromTheLeastToTheGreatest() {
        new Rows().add("copies(-1) = throws.IllegalArgumentException", "copies(10) = throws.IllegalArgumentException",
            "best(-1) = throws.IllegalArgumentException", "best(10) = throws.IllegalArgumentException",
            "copies(0) = 0", "copies(9) = 0", "best(0) = NONE", "best(9) = NONE").check("work: 0 to 9");
    }

    private static void bestOfNoneAndOfOne() {
        new Rows().add("put(0, 0, 0, 0) = 0", "best(0) = NONE", "open(0, false) = 0", "read(0) = 1", "best(0) = 0",
            "best(1) = NONE", "remove(0, 0) = true", "best(0) = 0", "open(0, false) = 0", "read(0) = 1",
            "best(0) = NONE").check("record 0 of catalogue 0 with stamp 0 is best, and then none");
        new Rows().to(5000).add("put(3, 19, 9, 1000) = 5000", "best(9) = NONE", "open(3, false) = 0", "read(3) = 1",
            "best(9) = 319", "best(8) = NONE").check("record 19 of catalogue 3 with stamp 5000 is best");
    }

    private static void bestByTheGreatestStamp() {
        new Rows().to(4999).add("put(0, 0, 5, 1000) = 4999", "put(0, 1, 5, 1000) = 4999", "put(2, 0, 5, 1000) = 4999")
            .to(5000).add("put(3, 19, 5, 0) = 5000", "put(3, 18, 6, 0) = 5000")
            .each(0, 3, c -> "open(" + c + ", false) = 0").add("read(0) = 2", "read(2) = 1", "best(5) = 0",
                "read(3) = 2", "best(5) = 319", "best(6) = 318", "put(0, 19, 5, 0) = 5000", "best(5) = 319",
                "open(0, false) = 5000", "read(0) = 1", "best(5) = 19", "best(6) = 318")
            .check("the one with the greatest stamp, though of the last number and the least value");
    }

    private static void bestOfSeveralByTheLowestCatalogue() {
        Rows rows = new Rows().each(0, 3, c -> "put(" + c + ", " + (19 - c) + ", 3, 0) = 0")
            .each(0, 3, c -> "open(" + c + ", false) = 0");
        for (int c = 3; c >= 0; c--) {
            rows.add("read(" + c + ") = 1", "best(3) = " + (100 * c + 19 - c));
        }
        rows.check("of several that of the catalogue with the lowest number");
    }

    private static void bestOfSeveralByTheLowestNumber() {
        Rows rows = new Rows().each(0, 19, r -> "put(1, " + r + ", 3, 0) = 0").add("open(1, false) = 0").readAll(1, 20);
        for (int r = 0; r < 17; r++) {
            rows.add("best(3) = " + (100 + r), "remove(1, " + r + ") = true", "open(1, false) = 0").readAll(1, 20);
        }
        rows.add("best(3) = 117", "copies(3) = 3").check("of several the one with the lowest number");
    }

    private static void bestOfAFullStore() {
        Rows rows = new Rows().each(0, 79, k -> "put(" + k / 20 + ", " + k % 20 + ", 9, 1000) = 0");
        for (int c = 3; c >= 0; c--) {
            rows.add("open(" + c + ", true) = 0").readAll(c, 20).add("best(9) = " + 100 * c);
        }
        rows.to(1).add("put(3, 19, 9, 1000) = 1", "best(9) = 0", "open(3, false) = 0").readAll(3, 20)
            .add("best(9) = 319", "copies(9) = 80").check("the best of a full store");
    }
}
