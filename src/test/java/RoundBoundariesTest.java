/** The terms, "Harvester": a test for each sentence on the end of a list that names a boundary case. */
final class RoundBoundariesTest {
    public static void main(String[] args) {
        whenNothingIsLeftItIsClosed();
        theMarkByTheDayOfTheOpening();
        theMarkWhereTheUnitWrapsAround();
        theMarkOnTheLastDay();
        theMarkGoesBack();
        fullRoundOverAnEmptyCatalogue();
        fullRoundWithAnEmptyStore();
        fullRoundDropsAtItsEndAlone();
        fullRoundDropsTheFirstAndTheLastNumber();
        fullRoundKeepsWhatWasTakenOver();
        fullRoundCountsFromTheLastOpening();
        plainRoundDropsNothing();
        fullRoundLeavesOtherCatalogues();
        Check.end();
    }

    private static void whenNothingIsLeftItIsClosed() {
        new Rows().add("open(0, true) = 0", "read(0) = 0", "isOpen(0) = false",
            "read(0) = throws.IllegalStateException", "open(0, true) = 0", "isOpen(0) = true")
            .check("an empty list is done with its first page");
        new Rows().putEach(0, 0, 2, 0).add("open(0, false) = 0", "read(0) = 3", "isOpen(0) = false",
            "put(0, 3, 0, 3) = 0", "read(0) = throws.IllegalStateException", "held(0) = 3")
            .check("a list of a page is done with it");
    }

    private static void theMarkByTheDayOfTheOpening() {
        new Rows().putEach(0, 0, 3, 0).to(3).add("open(0, false) = 0").to(4).add("read(0) = 3", "mark(0) = 0").to(5)
            .add("read(0) = 1", "mark(0) = 3").check("the day on which it was opened, not that of a page");
        new Rows().putEach(0, 0, 3, 0).to(3).add("open(0, false) = 0").to(4).add("open(0, true) = 0").to(5)
            .readAll(0, 4).add("mark(0) = 4").check("the day on which it was opened last, by a call");
        new Rows().putEach(0, 0, 3, 0).add("open(0, false) = 0").to(6).add("read(0) = 3", "mark(0) = 0").to(11)
            .add("read(0) = 1", "mark(0) = 6").check("the day on which it was opened last, for its token");
    }

    private static void theMarkWhereTheUnitWrapsAround() {
        for (int unit = 1; unit <= 30; unit++) {
            Rows rows = new Rows().add("setCatalogue(2, " + unit + ", FOREVER) = 1");
            int mark = 0;
            for (int turn = 0; turn < 3; turn++) {
                rows.to(turn * unit).add("open(2, false) = " + mark, "read(2) = 0", "mark(2) = " + turn * unit);
                mark = turn * unit;
                rows.to(mark + unit - 1).add("open(2, true) = 0", "read(2) = 0", "mark(2) = " + mark);
            }
            rows.check("the mark, less the day modulo the unit " + unit);
        }
    }

    private static void theMarkOnTheLastDay() {
        new Rows().add("setCatalogue(1, 30, FOREVER) = 1", "setCatalogue(2, 7, FOREVER) = 1").to(5000)
            .each(0, 2, c -> "open(" + c + ", false) = 0").each(0, 2, c -> "read(" + c + ") = 0")
            .add("mark(0) = 5000", "mark(1) = 4980", "mark(2) = 4998", "mark(3) = 0", "open(0, false) = 5000",
                "open(1, false) = 4980", "open(2, false) = 4998", "open(3, false) = 0").check("marks on day 5000");
    }

    private static void theMarkGoesBack() {
        new Rows().to(29).add("open(0, false) = 0", "read(0) = 0", "mark(0) = 29", "setCatalogue(0, 30, FOREVER) = 1",
            "mark(0) = 29", "open(0, false) = 29", "mark(0) = 29", "read(0) = 0", "mark(0) = 0")
            .check("a coarser clock sets the mark back when the list is done");
    }

    private static void fullRoundOverAnEmptyCatalogue() {
        new Rows().add("setCatalogue(0, 1, NEVER) = 1").putEach(0, 0, 19, 0).add("open(0, false) = 0").readAll(0, 20)
            .removeEach(0, 0, 19, false).add("held(0) = 20", "wrong(0) = 20", "open(0, true) = 0", "held(0) = 20")
            .readAll(0, 0).add("held(0) = 0", "wrong(0) = 0").check("a full store, an empty catalogue");
    }

    private static void fullRoundWithAnEmptyStore() {
        new Rows().putEach(0, 0, 19, 0).add("open(0, true) = 0").readAll(0, 20).add("held(0) = 20", "wrong(0) = 0",
            "open(0, true) = 0").readAll(0, 20).add("held(0) = 20", "wrong(0) = 0")
            .check("an empty store, then a full one, a full catalogue");
        new Rows().add("open(0, true) = 0").readAll(0, 0).add("held(0) = 0")
            .check("an empty store, an empty catalogue");
    }

    private static void fullRoundDropsAtItsEndAlone() {
        new Rows().add("setCatalogue(0, 1, NEVER) = 1").putEach(0, 0, 7, 0).add("open(0, false) = 0").readAll(0, 8)
            .add("remove(0, 0) = false", "open(0, true) = 0", "read(0) = 3", "held(0) = 8", "read(0) = 3",
                "held(0) = 8", "read(0) = 1", "isOpen(0) = false", "held(0) = 7")
            .check("when the list is done, and not ahead of it");
        new Rows().add("setCatalogue(0, 1, NEVER) = 1").putEach(0, 0, 3, 0).add("open(0, false) = 0").readAll(0, 4)
            .add("remove(0, 0) = false", "put(0, 4, 0, 4) = 0", "open(0, true) = 0", "read(0) = 3",
                "open(0, false) = 0").readAll(0, 4).add("held(0) = 5", "stored(0, 0) = 0")
            .check("a full list that is not done drops nothing");
    }

    private static void fullRoundDropsTheFirstAndTheLastNumber() {
        new Rows().add("setCatalogue(0, 1, NEVER) = 1").putEach(0, 0, 19, 0).add("open(0, false) = 0").readAll(0, 20)
            .add("remove(0, 0) = false", "remove(0, 19) = false", "open(0, true) = 0").readAll(0, 18)
            .add("held(0) = 18", "stored(0, 0) = NONE", "stored(0, 1) = 1", "stored(0, 18) = 18",
                "stored(0, 19) = NONE", "wrong(0) = 0").check("records 0 and 19 are gone");
    }

    private static void fullRoundKeepsWhatWasTakenOver() {
        new Rows().add("setCatalogue(0, 1, NEVER) = 1").putEach(0, 0, 3, 0).add("open(0, true) = 0", "read(0) = 3",
            "remove(0, 0) = false", "remove(0, 2) = false", "read(0) = 1", "held(0) = 4", "wrong(0) = 2")
            .check("gone behind its page, it stays");
        new Rows().putEach(0, 0, 3, 0).add("open(0, true) = 0", "read(0) = 3", "remove(0, 0) = true", "read(0) = 1",
            "held(0) = 4", "wrong(0) = 1").check("a told delete ahead of the place does not drop it");
        new Rows().putEach(0, 0, 3, 0).add("open(0, true) = 0", "read(0) = 3").to(1).add("remove(0, 0) = true",
            "read(0) = 2", "held(0) = 3", "wrong(0) = 0").check("a told delete behind the place drops it");
        new Rows().putEach(0, 0, 3, 0).add("open(0, false) = 0").readAll(0, 4).add("remove(0, 0) = true",
            "open(0, true) = 0", "read(0) = 3", "held(0) = 3").to(1).add("put(0, 0, 0, 100) = 1", "read(0) = 2",
            "stored(0, 0) = 100", "held(0) = 4", "wrong(0) = 0").check("dropped and then taken over, it stays");
    }

    private static void fullRoundCountsFromTheLastOpening() {
        new Rows().add("setCatalogue(0, 1, NEVER) = 1").putEach(0, 0, 5, 0).add("open(0, true) = 0", "read(0) = 3",
            "remove(0, 0) = false").to(5).readAll(0, 3).add("held(0) = 6", "wrong(0) = 1")
            .check("5 days: taken over since it was opened last");
        new Rows().add("setCatalogue(0, 1, NEVER) = 1").putEach(0, 0, 5, 0).add("open(0, true) = 0", "read(0) = 3",
            "remove(0, 0) = false").to(6).readAll(0, 5).add("held(0) = 5", "wrong(0) = 0")
            .check("6 days: taken over before it was opened last");
        new Rows().add("setCatalogue(0, 1, NEVER) = 1").putEach(0, 0, 5, 0).add("open(0, true) = 0", "read(0) = 3",
            "remove(0, 0) = false", "open(0, true) = 0").readAll(0, 5).add("held(0) = 5", "wrong(0) = 0")
            .check("taken over before it was opened in place of one");
    }

    private static void plainRoundDropsNothing() {
        new Rows().add("setCatalogue(0, 1, NEVER) = 1").putEach(0, 0, 19, 0).add("open(0, false) = 0").readAll(0, 20)
            .removeEach(0, 0, 19, false).add("open(0, false) = 0").readAll(0, 0).add("held(0) = 20", "wrong(0) = 20")
            .check("if it was not a full one, what is gone stays");
        new Rows().add("setCatalogue(0, 1, NEVER) = 1").putEach(0, 0, 0, 0).add("open(0, true) = 0").readAll(0, 1)
            .add("remove(0, 0) = false", "open(0, false) = 0").readAll(0, 0).add("held(0) = 1")
            .check("a plain one behind a full one");
    }

    private static void fullRoundLeavesOtherCatalogues() {
        new Rows().each(0, 3, c -> "setCatalogue(" + c + ", 1, NEVER) = 1")
            .each(0, 3, c -> "put(" + c + ", 5, 0, 5) = 0").each(0, 3, c -> "open(" + c + ", false) = 0")
            .each(0, 3, c -> "read(" + c + ") = 1").each(0, 3, c -> "remove(" + c + ", 5) = false")
            .add("open(2, true) = 0", "read(2) = 0").each(0, 3, c -> "held(" + c + ") = " + (c == 2 ? 0 : 1))
            .check("the records of the other catalogues stay");
    }
}
