/** The terms, "Lists" and "Harvester" and promises 9 to 12: a test for each sentence that names a boundary case. */
final class ListBoundariesTest {
    public static void main(String[] args) {
        listsFromNoneToAllRecords();
        listsFromNoneToAllToldDeletes();
        aToldDeleteBehindAPage();
        aStampJustBelowAtAndAboveTheMark();
        byRisingStampsOfSeveralByRisingNumbers();
        theFirstAndTheLastNumberOfAStamp();
        thePlaceIsThatOfTheLastOneRead();
        thePlaceStaysWhereItsRecordWas();
        asTheCatalogueIsWhenAPageIsRead();
        theMarkIs0AtFirst();
        atMostOneOpenList();
        openFromTheLeastToTheGreatest();
        aFullOneBeginsFrom0();
        thePlaceIsAheadOfAll();
        takesOverWithWorkValueAndStamp();
        dropsWithAToldDelete();
        fiveAndSixDaysSinceTheOpening();
        fiveAndSixDaysSinceTheLastPage();
        daysSinceTheOpeningDoNotCountBehindAPage();
        fiveAndSixDaysSinceItWasOpenedAgain();
        daysInSeveralSteps();
        tokensOnTheLastDay();
        openedAgainAsItWasOpenedBefore();
        theFirstPageIsRead();
        Check.end();
    }

    private static void listsFromNoneToAllRecords() {
        for (int records = 0; records <= 20; records++) {
            new Rows().putEach(0, 20 - records, 19, 0).add("open(0, false) = 0", "isOpen(0) = true").readAll(0, records)
                .add("read(0) = throws.IllegalStateException", "held(0) = " + records, "wrong(0) = 0",
                    "open(0, true) = 0").readAll(0, records).add("held(0) = " + records)
                .check("a list of " + records + " records");
        }
    }

    private static void listsFromNoneToAllToldDeletes() {
        for (int told = 0; told <= 20; told++) {
            new Rows().putEach(3, 0, told - 1, 0).add("open(3, false) = 0").readAll(3, told)
                .removeEach(3, 0, told - 1, true).add("open(3, false) = 0").readAll(3, told)
                .add("read(3) = throws.IllegalStateException", "held(3) = 0", "told(3) = " + told)
                .check("a list of " + told + " told deletes");
        }
    }

    private static void aToldDeleteBehindAPage() {
        new Rows().putEach(0, 0, 3, 0).add("remove(0, 3) = true", "open(0, false) = 0", "read(0) = 3",
            "isOpen(0) = true", "read(0) = 1", "isOpen(0) = false").check("a told delete alone is left in the list");
        new Rows().add("setCatalogue(0, 1, WHILE) = 1").putEach(0, 0, 3, 0).add("remove(0, 3) = true").to(9)
            .add("open(0, false) = 0", "read(0) = 3", "isOpen(0) = true").to(10)
            .add("isOpen(0) = true", "mark(0) = 0", "read(0) = 0", "isOpen(0) = false", "mark(0) = 9")
            .check("a told delete that goes leaves an empty page");
    }

    private static void aStampJustBelowAtAndAboveTheMark() {
        new Rows().add("setCatalogue(1, 10, FOREVER) = 1").to(19).putEach(1, 0, 0, 10).to(20).putEach(1, 1, 1, 20)
            .to(30).putEach(1, 2, 2, 30).to(39).add("open(1, false) = 0").readAll(1, 3).add("mark(1) = 30",
                "open(1, false) = 30").readAll(1, 1).add("setCatalogue(1, 20, FOREVER) = 10", "open(1, false) = 30")
            .readAll(1, 1).add("mark(1) = 20", "open(1, false) = 20").readAll(1, 2).check("this stamp or a later one");
        new Rows().putEach(0, 0, 2, 0).add("open(0, false) = 0").readAll(0, 3).add("remove(0, 0) = true").to(1)
            .add("remove(0, 1) = true", "open(0, false) = 0").readAll(0, 3).to(2)
            .add("remove(0, 2) = true", "open(0, false) = 1").readAll(0, 2).add("open(0, false) = 2").readAll(0, 1)
            .check("told deletes of this stamp or a later one");
    }

    private static void byRisingStampsOfSeveralByRisingNumbers() {
        new Rows().putEach(0, 15, 19, 0).to(1).putEach(0, 10, 14, 1).to(2).putEach(0, 5, 9, 2).to(3).putEach(0, 0, 4, 3)
            .add("open(0, false) = 0", "read(0) = 3", "stored(0, 15) = 15", "stored(0, 17) = 17",
                "stored(0, 18) = NONE", "read(0) = 3", "stored(0, 19) = 19", "stored(0, 10) = 10",
                "stored(0, 11) = NONE", "read(0) = 3", "stored(0, 13) = 13", "stored(0, 14) = NONE", "read(0) = 3",
                "stored(0, 6) = 6", "stored(0, 7) = NONE", "read(0) = 3", "stored(0, 9) = 9", "stored(0, 0) = NONE",
                "read(0) = 3", "stored(0, 2) = 2", "stored(0, 3) = NONE", "read(0) = 2", "isOpen(0) = false",
                "stored(0, 4) = 4").check("by rising stamps, of several by rising numbers");
    }

    private static void theFirstAndTheLastNumberOfAStamp() {
        new Rows().putEach(0, 17, 19, 0).to(1).putEach(0, 0, 0, 1).add("open(0, false) = 0", "read(0) = 3",
            "isOpen(0) = true", "stored(0, 0) = NONE", "read(0) = 1", "isOpen(0) = false", "stored(0, 0) = 0")
            .check("number 0 of the next stamp is behind number 19");
        new Rows().putEach(0, 0, 0, 0).putEach(0, 18, 19, 0).add("open(0, false) = 0", "read(0) = 3",
            "isOpen(0) = false", "held(0) = 3").check("there is nothing behind number 19 of the last stamp");
    }

    private static void thePlaceIsThatOfTheLastOneRead() {
        new Rows().add("setCatalogue(0, 30, FOREVER) = 1").putEach(0, 4, 5, 0).putEach(0, 7, 8, 0)
            .add("open(0, false) = 0", "read(0) = 3", "put(0, 6, 0, 6) = 0", "put(0, 7, 0, 70) = 0",
                "remove(0, 8) = true", "put(0, 9, 0, 9) = 0", "read(0) = 2", "isOpen(0) = false",
                "stored(0, 6) = NONE", "stored(0, 7) = 7", "stored(0, 9) = 9", "held(0) = 4", "wrong(0) = 2")
            .check("of its stamp the number ahead and its own are not behind it, the next number is");
        new Rows().to(30).putEach(0, 0, 3, 30).add("open(0, true) = 0", "read(0) = 3",
            "setCatalogue(0, 29, FOREVER) = 1", "put(0, 19, 0, 19) = 29", "setCatalogue(0, 1, FOREVER) = 29").to(31)
            .add("put(0, 2, 0, 22) = 31", "read(0) = 2", "isOpen(0) = false", "stored(0, 19) = NONE",
                "stored(0, 3) = 3", "stored(0, 2) = 22")
            .check("number 19 of the stamp ahead is not behind it, its own number with the next stamp is");
    }

    private static void thePlaceStaysWhereItsRecordWas() {
        new Rows().add("setCatalogue(0, 1, NEVER) = 1").putEach(0, 0, 3, 0).add("open(0, false) = 0", "read(0) = 3")
            .removeEach(0, 0, 2, false).add("read(0) = 1", "isOpen(0) = false", "stored(0, 2) = 2", "wrong(0) = 3")
            .check("the record of the place is removed");
        new Rows().putEach(0, 0, 3, 0).add("open(0, false) = 0", "read(0) = 3").to(1).add("put(0, 2, 0, 22) = 1",
            "read(0) = 2", "isOpen(0) = false", "stored(0, 2) = 22", "wrong(0) = 0")
            .check("the record of the place is changed and comes again");
        new Rows().putEach(0, 0, 3, 0).add("open(0, false) = 0", "read(0) = 3", "setCatalogue(0, 1, NEVER) = 1",
            "remove(0, 3) = false", "read(0) = 0", "isOpen(0) = false").putEach(0, 3, 3, 0)
            .add("read(0) = throws.IllegalStateException").check("what was behind the place is removed");
    }

    private static void asTheCatalogueIsWhenAPageIsRead() {
        new Rows().add("open(0, false) = 0").putEach(0, 0, 19, 0).readAll(0, 20).add("wrong(0) = 0")
            .check("opened as an empty one, read as a full one");
        new Rows().add("setCatalogue(0, 1, NEVER) = 1").putEach(0, 0, 19, 0).add("open(0, false) = 0")
            .removeEach(0, 0, 19, false).readAll(0, 0).add("held(0) = 0")
            .check("opened as a full one, read as an empty one");
        new Rows().putEach(0, 0, 5, 0).add("open(0, false) = 0", "read(0) = 3").putEach(0, 6, 6, 0).add("read(0) = 3",
            "isOpen(0) = true", "read(0) = 1", "isOpen(0) = false")
            .check("one more behind the last page keeps it open");
    }

    private static void theMarkIs0AtFirst() {
        new Rows().to(5000).each(0, 3, c -> "mark(" + c + ") = 0").each(0, 3, c -> "open(" + c + ", false) = 0")
            .each(0, 3, c -> "mark(" + c + ") = 0").check("a mark, 0 at first, until a list is done");
    }

    private static void atMostOneOpenList() {
        new Rows().putEach(0, 0, 3, 0).add("open(0, false) = 0", "open(0, true) = 0", "open(0, false) = 0")
            .readAll(0, 4).add("read(0) = throws.IllegalStateException", "isOpen(0) = false")
            .check("of each catalogue at most one open list");
        new Rows().each(0, 3, c -> "put(" + c + ", " + c + ", 0, " + c + ") = 0")
            .each(0, 3, c -> "open(" + c + ", true) = 0").each(0, 3, c -> "isOpen(" + c + ") = true")
            .add("read(2) = 1").each(0, 3, c -> "isOpen(" + c + ") = " + (c != 2))
            .each(0, 3, c -> "held(" + c + ") = " + (c == 2 ? 1 : 0)).add("read(0) = 1", "read(3) = 1", "read(1) = 1")
            .each(0, 3, c -> "isOpen(" + c + ") = false").check("each catalogue has a list of its own");
    }

    private static void openFromTheLeastToTheGreatest() {
        new Rows().add("open(-1, false) = throws.IllegalArgumentException",
            "open(4, true) = throws.IllegalArgumentException", "read(-1) = throws.IllegalArgumentException",
            "read(4) = throws.IllegalArgumentException", "isOpen(-1) = throws.IllegalArgumentException",
            "isOpen(4) = throws.IllegalArgumentException", "mark(-1) = throws.IllegalArgumentException",
            "mark(4) = throws.IllegalArgumentException", "isOpen(0) = false", "isOpen(3) = false",
            "open(0, false) = 0", "open(3, true) = 0", "isOpen(0) = true", "isOpen(3) = true", "read(0) = 0",
            "read(3) = 0", "mark(0) = 0", "mark(3) = 0").check("catalogue: 0 to 3, of lists");
    }

    private static void aFullOneBeginsFrom0() {
        new Rows().putEach(0, 0, 3, 0).to(1).add("open(0, false) = 0").readAll(0, 4).add("mark(0) = 1",
            "open(0, false) = 1", "read(0) = 0", "open(0, true) = 0").readAll(0, 4)
            .add("mark(0) = 1", "open(0, false) = 1", "read(0) = 0")
            .check("from the mark on, or, for a full one, from 0 on");
        new Rows().to(5000).add("open(0, false) = 0", "read(0) = 0", "mark(0) = 5000", "put(0, 0, 0, 0) = 5000",
            "open(0, false) = 5000", "read(0) = 1", "open(0, true) = 0", "read(0) = 1", "mark(0) = 5000")
            .check("from 5000 on, or, for a full one, from 0 on");
    }

    private static void thePlaceIsAheadOfAll() {
        new Rows().putEach(0, 0, 0, 0).add("open(0, false) = 0", "read(0) = 1", "stored(0, 0) = 0", "open(0, true) = 0",
            "read(0) = 1", "remove(0, 0) = true", "open(0, false) = 0", "read(0) = 1", "held(0) = 0")
            .check("the place is ahead of stamp 0 and number 0");
    }

    private static void takesOverWithWorkValueAndStamp() {
        new Rows().to(4999).add("put(0, 0, 0, 0) = 4999", "put(3, 19, 9, 1000) = 4999", "open(0, false) = 0",
            "read(0) = 1", "open(3, false) = 0", "read(3) = 1", "wrong(0) = 0", "wrong(3) = 0", "copies(0) = 1",
            "copies(9) = 1", "stored(0, 0) = 0", "stored(3, 19) = 1000").to(5000).add("put(1, 7, 0, 5) = 5000",
            "open(1, false) = 0", "best(0) = 0", "read(1) = 1", "best(0) = 107")
            .check("takes over each record with work, value and stamp");
    }

    private static void dropsWithAToldDelete() {
        new Rows().putEach(0, 0, 19, 0).add("open(0, false) = 0").readAll(0, 20).removeEach(0, 0, 19, true)
            .add("held(0) = 20", "open(0, false) = 0", "read(0) = 3", "held(0) = 17", "read(0) = 3", "held(0) = 14",
                "read(0) = 3", "read(0) = 3", "read(0) = 3", "read(0) = 3", "held(0) = 2", "read(0) = 2", "held(0) = 0",
                "isOpen(0) = false", "wrong(0) = 0").check("drops each record with a told delete");
        new Rows().add("put(0, 0, 0, 0) = 0", "remove(0, 0) = true", "open(0, false) = 0", "read(0) = 1", "held(0) = 0")
            .check("a told delete of a record that the store has not");
    }

    private static void fiveAndSixDaysSinceTheOpening() {
        new Rows().putEach(0, 0, 3, 0).add("open(0, false) = 0").to(5).readAll(0, 4).add("mark(0) = 0")
            .check("5 days since the list was opened");
        new Rows().putEach(0, 0, 3, 0).add("open(0, false) = 0").to(6).readAll(0, 4).add("mark(0) = 6")
            .check("6 days since the list was opened");
        new Rows().putEach(0, 0, 3, 0).add("open(0, false) = 0").to(5000).add("isOpen(0) = true").readAll(0, 4)
            .add("mark(0) = 5000").check("5000 days since the list was opened");
    }

    private static void fiveAndSixDaysSinceTheLastPage() {
        new Rows().putEach(0, 0, 6, 0).to(1).add("open(0, false) = 0", "read(0) = 3").to(6).readAll(0, 4)
            .add("mark(0) = 1").check("5 days since the last page was read");
        new Rows().putEach(0, 0, 6, 0).to(1).add("open(0, false) = 0", "read(0) = 3").to(7).add("isOpen(0) = true")
            .readAll(0, 7).add("mark(0) = 7").check("6 days since the last page was read");
        new Rows().putEach(0, 0, 6, 0).add("open(0, false) = 0", "read(0) = 3").to(100).readAll(0, 7)
            .add("mark(0) = 100").check("100 days since the last page was read");
    }

    private static void daysSinceTheOpeningDoNotCountBehindAPage() {
        Rows rows = new Rows().putEach(0, 0, 19, 0).add("open(0, false) = 0");
        for (int page = 1; page <= 6; page++) {
            rows.to(5 * page).add("read(0) = 3", "isOpen(0) = true");
        }
        rows.to(35).add("read(0) = 2", "isOpen(0) = false", "mark(0) = 0").check("each page 5 days behind the last");
        new Rows().putEach(0, 0, 6, 0).add("open(0, false) = 0").to(5).add("read(0) = 3").to(10).add("read(0) = 3")
            .to(16).readAll(0, 7).add("mark(0) = 16").check("the third page 6 days behind the second");
    }

    private static void fiveAndSixDaysSinceItWasOpenedAgain() {
        new Rows().putEach(0, 0, 3, 0).add("open(0, false) = 0").to(6).add("open(0, false) = 0").to(11).readAll(0, 4)
            .add("mark(0) = 6").check("5 days since it was opened in place of one");
        new Rows().putEach(0, 0, 3, 0).add("open(0, false) = 0", "read(0) = 3").to(5).add("open(0, false) = 0").to(11)
            .readAll(0, 4).add("mark(0) = 11").check("6 days since it was opened in place of one");
        new Rows().putEach(0, 0, 3, 0).add("open(0, false) = 0").to(6).add("read(0) = 3").to(11).add("read(0) = 1",
            "isOpen(0) = false", "mark(0) = 6").check("5 days since an aged one was opened again");
        new Rows().putEach(0, 0, 3, 0).add("open(0, false) = 0").to(6).add("read(0) = 3").to(12).readAll(0, 4)
            .add("mark(0) = 12").check("6 days since an aged one was opened again");
    }

    private static void daysInSeveralSteps() {
        new Rows().putEach(0, 0, 3, 0).add("open(0, false) = 0", "read(0) = 3").to(2).to(4).to(5).add("read(0) = 1",
            "mark(0) = 0").check("5 days in three steps");
        new Rows().putEach(0, 0, 3, 0).add("open(0, false) = 0", "read(0) = 3").to(1).to(3).to(6).readAll(0, 4)
            .add("mark(0) = 6").check("6 days in three steps");
    }

    private static void tokensOnTheLastDay() {
        new Rows().putEach(0, 0, 3, 0).to(4995).add("open(0, false) = 0", "read(0) = 3").to(5000)
            .add("pass(1) = throws.IllegalStateException", "read(0) = 1", "isOpen(0) = false", "mark(0) = 4995")
            .check("a page of day 4995 on day 5000");
        new Rows().putEach(0, 0, 3, 0).to(4994).add("open(0, false) = 0", "read(0) = 3").to(5000).readAll(0, 4)
            .add("mark(0) = 5000").check("a page of day 4994 on day 5000");
    }

    private static void openedAgainAsItWasOpenedBefore() {
        new Rows().add("setCatalogue(0, 1, NEVER) = 1").putEach(0, 0, 3, 0).to(1).add("open(0, false) = 0")
            .readAll(0, 4).add("remove(0, 0) = false", "open(0, false) = 1").to(7).readAll(0, 0)
            .add("held(0) = 4", "mark(0) = 7").check("from the mark on");
        new Rows().add("setCatalogue(0, 1, NEVER) = 1").putEach(0, 0, 3, 0).to(1).add("open(0, false) = 0")
            .readAll(0, 4).add("remove(0, 0) = false", "open(0, true) = 0").to(7).readAll(0, 3)
            .add("held(0) = 3", "mark(0) = 7").check("a full one from 0 on");
        new Rows().add("setCatalogue(0, 1, NEVER) = 1").putEach(0, 0, 3, 0).add("open(0, true) = 0", "read(0) = 3")
            .to(6).add("read(0) = 3").to(12).add("read(0) = 3", "remove(0, 1) = false", "read(0) = 1", "held(0) = 4")
            .to(18).add("open(0, true) = 0").to(24).readAll(0, 3).add("held(0) = 3").check("a full one, each time");
    }

    private static void theFirstPageIsRead() {
        new Rows().putEach(0, 0, 4, 0).add("open(0, true) = 0", "read(0) = 3", "put(0, 0, 0, 100) = 0",
            "put(0, 3, 0, 103) = 0").to(6).add("read(0) = 3", "stored(0, 0) = 100", "stored(0, 3) = NONE",
            "read(0) = 2", "stored(0, 3) = 103").check("the first page is read");
    }
}
