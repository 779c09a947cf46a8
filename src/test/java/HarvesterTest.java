/** Promises 9 to 12: open, read, isOpen, mark. */
final class HarvesterTest {
    public static void main(String[] args) {
        open();
        openInPlaceOfOne();
        pagesOfThree();
        listsByStampsAndNumbers();
        listsFromTheMarkOn();
        listsAsTheCatalogueIsWhenRead();
        changesAheadOfThePlaceAreNotRead();
        toldDeletesInLists();
        tokensThatAge();
        tokensThatAgeWithoutAPage();
        openedAgainAsBefore();
        fullRounds();
        fullRoundsForgetWhatWasReadBeforeTheLastOpening();
        marks();
        isOpen();
        refused();
        Check.end();
    }

    private static void open() {
        Check.run("promise 9", "open(0, false) = 0", "open(3, true) = 0", "isOpen(0) = true", "isOpen(1) = false",
            "isOpen(3) = true", "pass(4) = 4", "open(1, false) = 0", "read(1) = 0", "mark(1) = 4",
            "open(1, false) = 4", "open(1, true) = 0", "open(1, false) = 4", "mark(1) = 4");
    }

    private static void openInPlaceOfOne() {
        Check.run("promise 9, in place of an open one",
            "put(0, 0, 0, 0) = 0", "put(0, 1, 0, 1) = 0", "put(0, 2, 0, 2) = 0", "put(0, 3, 0, 3) = 0",
            "open(0, false) = 0", "read(0) = 3", "open(0, false) = 0", "read(0) = 3", "isOpen(0) = true",
            "read(0) = 1", "isOpen(0) = false", "held(0) = 4");
        Check.run("promise 9, a plain one in place of a full one",
            "setCatalogue(0, 1, NEVER) = 1", "put(0, 0, 0, 0) = 0", "open(0, false) = 0", "read(0) = 1",
            "remove(0, 0) = false", "open(0, true) = 0", "open(0, false) = 0", "read(0) = 0", "held(0) = 1",
            "open(0, false) = 0", "open(0, true) = 0", "read(0) = 0", "held(0) = 0");
        Check.run("promise 9, the opening is what the mark becomes", "open(0, false) = 0", "pass(3) = 3",
            "open(0, false) = 0", "pass(1) = 4", "read(0) = 0", "mark(0) = 3");
    }

    private static void pagesOfThree() {
        Check.run("promise 10, no record", "open(0, false) = 0", "read(0) = 0", "isOpen(0) = false",
            "read(0) = throws.IllegalStateException");
        Check.run("promise 10, two records", "put(0, 7, 0, 1) = 0", "put(0, 8, 0, 2) = 0",
            "open(0, false) = 0", "read(0) = 2", "isOpen(0) = false");
        Check.run("promise 10, just a page", "put(0, 7, 0, 1) = 0", "put(0, 8, 0, 2) = 0", "put(0, 9, 0, 3) = 0",
            "open(0, false) = 0", "read(0) = 3", "isOpen(0) = false", "held(0) = 3");
        Check.run("promise 10, a page and one", "put(0, 7, 0, 1) = 0", "put(0, 8, 0, 2) = 0",
            "put(0, 9, 0, 3) = 0", "put(0, 19, 4, 4) = 0", "open(0, false) = 0", "read(0) = 3",
            "isOpen(0) = true", "held(0) = 3", "stored(0, 19) = NONE", "mark(0) = 0", "read(0) = 1",
            "isOpen(0) = false", "stored(0, 7) = 1", "stored(0, 8) = 2", "stored(0, 9) = 3", "stored(0, 19) = 4",
            "wrong(0) = 0", "copies(0) = 3", "copies(4) = 1");
        Check.run("promise 10, a catalogue of its own", "put(1, 7, 0, 1) = 0", "open(0, false) = 0",
            "open(1, false) = 0", "read(0) = 0", "isOpen(1) = true", "held(1) = 0", "read(1) = 1", "held(1) = 1",
            "held(0) = 0");
    }

    private static void listsByStampsAndNumbers() {
        Check.run("lists by rising stamps", "put(0, 9, 0, 0) = 0", "pass(1) = 1", "put(0, 8, 0, 0) = 1",
            "pass(1) = 2", "put(0, 0, 0, 0) = 2", "put(0, 1, 0, 0) = 2", "pass(1) = 3", "put(0, 9, 0, 7) = 3",
            "open(0, false) = 0", "read(0) = 3", "stored(0, 8) = 0", "stored(0, 0) = 0", "stored(0, 1) = 0",
            "stored(0, 9) = NONE", "read(0) = 1", "stored(0, 9) = 7", "isOpen(0) = false");
        Check.run("of several by rising numbers", "put(0, 19, 0, 0) = 0", "put(0, 10, 0, 0) = 0",
            "put(0, 11, 0, 0) = 0", "put(0, 2, 0, 0) = 0", "open(0, false) = 0", "read(0) = 3",
            "stored(0, 2) = 0", "stored(0, 10) = 0", "stored(0, 11) = 0", "stored(0, 19) = NONE", "read(0) = 1");
    }

    private static void listsFromTheMarkOn() {
        Check.run("lists from the mark on", "put(0, 0, 0, 0) = 0", "pass(2) = 2", "put(0, 1, 0, 0) = 2",
            "open(0, false) = 0", "read(0) = 2", "mark(0) = 2", "put(0, 0, 0, 5) = 2",
            "open(0, false) = 2", "read(0) = 2", "stored(0, 0) = 5",
            "pass(1) = 3", "open(0, false) = 2", "read(0) = 2", "open(0, false) = 3", "read(0) = 0",
            "mark(0) = 3", "open(0, true) = 0", "read(0) = 2", "mark(0) = 3");
    }

    private static void listsAsTheCatalogueIsWhenRead() {
        Check.run("lists as the catalogue is", "open(0, false) = 0", "pass(1) = 1",
            "put(0, 0, 0, 1) = 1", "put(0, 1, 0, 1) = 1", "put(0, 2, 0, 1) = 1", "put(0, 3, 0, 1) = 1",
            "put(0, 4, 0, 1) = 1", "put(0, 5, 0, 1) = 1", "read(0) = 3", "setCatalogue(0, 1, NEVER) = 1",
            "remove(0, 3) = false", "put(0, 4, 0, 2) = 1", "pass(1) = 2", "put(0, 0, 0, 3) = 2", "read(0) = 3",
            "isOpen(0) = false", "stored(0, 0) = 3", "stored(0, 4) = 2", "wrong(0) = 0", "mark(0) = 0");
        Check.run("the list ends while it is open", "put(0, 0, 0, 1) = 0", "put(0, 1, 0, 1) = 0",
            "put(0, 2, 0, 1) = 0", "put(0, 3, 0, 1) = 0", "setCatalogue(0, 1, NEVER) = 1", "open(0, false) = 0",
            "read(0) = 3", "remove(0, 3) = false", "isOpen(0) = true", "read(0) = 0", "isOpen(0) = false");
    }

    private static void changesAheadOfThePlaceAreNotRead() {
        Check.run("a change at the place or ahead of it is not read", "put(0, 1, 0, 1) = 0", "put(0, 2, 0, 1) = 0",
            "put(0, 3, 0, 1) = 0", "put(0, 4, 0, 1) = 0", "open(0, false) = 0", "read(0) = 3",
            "put(0, 0, 0, 2) = 0", "put(0, 3, 0, 2) = 0", "read(0) = 1", "isOpen(0) = false",
            "stored(0, 0) = NONE", "stored(0, 3) = 1", "wrong(0) = 2", "open(0, false) = 0", "read(0) = 3",
            "read(0) = 2", "wrong(0) = 0");
        Check.run("a coarser clock puts a change ahead of the place", "pass(35) = 35", "put(0, 0, 0, 1) = 35",
            "put(0, 1, 0, 1) = 35", "put(0, 2, 0, 1) = 35", "put(0, 3, 0, 1) = 35", "open(0, false) = 0",
            "read(0) = 3", "setCatalogue(0, 30, FOREVER) = 1", "put(0, 3, 0, 2) = 30", "read(0) = 0",
            "isOpen(0) = false", "stored(0, 3) = NONE", "wrong(0) = 1", "mark(0) = 30", "open(0, false) = 30",
            "read(0) = 3", "read(0) = 1", "wrong(0) = 0");
    }

    private static void toldDeletesInLists() {
        Check.run("told deletes are read and drop", "put(0, 0, 0, 1) = 0", "put(0, 1, 0, 1) = 0",
            "open(0, false) = 0", "read(0) = 2", "pass(1) = 1", "remove(0, 0) = true", "held(0) = 2",
            "wrong(0) = 1", "open(0, false) = 0", "read(0) = 2", "held(0) = 1", "stored(0, 0) = NONE",
            "stored(0, 1) = 1", "wrong(0) = 0", "told(0) = 1", "open(0, false) = 1", "read(0) = 1",
            "held(0) = 1");
        Check.run("told deletes of what the store has not are read", "put(0, 0, 0, 1) = 0", "remove(0, 0) = true",
            "open(0, false) = 0", "read(0) = 1", "held(0) = 0", "stored(0, 0) = NONE");
        Check.run("a told delete that is gone leaves the record in the store", "setCatalogue(0, 1, WHILE) = 1",
            "put(0, 0, 0, 1) = 0", "open(0, false) = 0", "read(0) = 1", "remove(0, 0) = true", "pass(10) = 10",
            "open(0, false) = 0", "read(0) = 0", "held(0) = 1", "wrong(0) = 1", "open(0, true) = 0",
            "read(0) = 0", "held(0) = 0", "wrong(0) = 0");
        Check.run("told deletes stand by their stamps and numbers", "put(0, 5, 0, 1) = 0", "put(0, 6, 0, 1) = 0",
            "put(0, 0, 0, 1) = 0", "pass(1) = 1", "remove(0, 5) = true", "put(0, 4, 0, 1) = 1",
            "remove(0, 0) = true", "open(0, false) = 0", "read(0) = 3", "stored(0, 6) = 1", "stored(0, 4) = 1",
            "held(0) = 2", "read(0) = 1", "isOpen(0) = false");
        Check.run("a told delete is not behind the place once it was read", "put(0, 0, 0, 1) = 0",
            "put(0, 1, 0, 1) = 0", "put(0, 2, 0, 1) = 0", "put(0, 3, 0, 1) = 0", "remove(0, 2) = true",
            "open(0, false) = 0", "read(0) = 3", "put(0, 2, 0, 1) = 0", "read(0) = 1", "isOpen(0) = false",
            "stored(0, 2) = NONE");
    }

    private static void tokensThatAge() {
        Check.run("a token of 5 days is taken", "put(0, 0, 0, 1) = 0", "put(0, 1, 0, 1) = 0", "put(0, 2, 0, 1) = 0",
            "put(0, 3, 0, 1) = 0", "open(0, false) = 0", "read(0) = 3", "pass(5) = 5", "read(0) = 1",
            "isOpen(0) = false", "mark(0) = 0");
        Check.run("a token of 6 days has aged", "put(0, 0, 0, 1) = 0", "put(0, 1, 0, 1) = 0", "put(0, 2, 0, 1) = 0",
            "put(0, 3, 0, 1) = 0", "open(0, false) = 0", "read(0) = 3", "pass(6) = 6", "isOpen(0) = true",
            "read(0) = 3", "isOpen(0) = true", "stored(0, 3) = NONE", "read(0) = 1", "isOpen(0) = false",
            "mark(0) = 6");
        Check.run("each page has a new token", "put(0, 0, 0, 1) = 0", "put(0, 1, 0, 1) = 0", "put(0, 2, 0, 1) = 0",
            "put(0, 3, 0, 1) = 0", "put(0, 4, 0, 1) = 0", "put(0, 5, 0, 1) = 0", "put(0, 6, 0, 1) = 0",
            "open(0, false) = 0", "pass(4) = 4", "read(0) = 3", "pass(4) = 8", "read(0) = 3", "pass(5) = 13",
            "read(0) = 1", "isOpen(0) = false", "mark(0) = 0");
        Check.run("an opening in place of one has a new token", "put(0, 0, 0, 1) = 0", "open(0, false) = 0",
            "pass(4) = 4", "open(0, false) = 0", "pass(5) = 9", "read(0) = 1", "mark(0) = 4");
        Check.run("the page of a list opened again has a new token", "put(0, 0, 0, 1) = 0", "put(0, 1, 0, 1) = 0",
            "put(0, 2, 0, 1) = 0", "put(0, 3, 0, 1) = 0", "open(0, false) = 0", "pass(6) = 6", "read(0) = 3",
            "pass(5) = 11", "read(0) = 1", "mark(0) = 6");
    }

    private static void tokensThatAgeWithoutAPage() {
        Check.run("5 days without a page", "open(0, false) = 0", "pass(5) = 5", "read(0) = 0", "mark(0) = 0");
        Check.run("6 days without a page", "open(0, false) = 0", "pass(6) = 6", "read(0) = 0", "mark(0) = 6");
    }

    private static void openedAgainAsBefore() {
        Check.run("opened again from the mark on", "put(0, 0, 0, 1) = 0", "pass(1) = 1", "open(0, false) = 0",
            "read(0) = 1", "mark(0) = 1", "open(0, false) = 1", "pass(6) = 7", "put(0, 1, 0, 1) = 7",
            "read(0) = 1", "held(0) = 2", "isOpen(0) = false", "mark(0) = 7");
        Check.run("opened again as a full one", "setCatalogue(0, 1, NEVER) = 1", "put(0, 0, 0, 1) = 0",
            "put(0, 1, 0, 1) = 0", "pass(1) = 1", "open(0, false) = 0", "read(0) = 2", "remove(0, 0) = false",
            "open(0, true) = 0", "pass(6) = 7", "read(0) = 1", "isOpen(0) = false", "held(0) = 1",
            "stored(0, 0) = NONE", "stored(0, 1) = 1", "mark(0) = 7");
    }

    private static void fullRounds() {
        Check.run("a plain round does not show what is gone", "setCatalogue(0, 1, NEVER) = 1",
            "put(0, 0, 0, 1) = 0", "put(0, 1, 0, 2) = 0", "open(0, false) = 0", "read(0) = 2",
            "remove(0, 0) = false", "open(0, false) = 0", "read(0) = 1", "held(0) = 2", "wrong(0) = 1",
            "stored(0, 0) = 1");
        Check.run("a full round shows what is gone, when it is done", "setCatalogue(0, 1, NEVER) = 1",
            "put(0, 0, 0, 1) = 0", "put(0, 1, 0, 2) = 0", "put(0, 2, 0, 3) = 0", "put(0, 3, 0, 4) = 0",
            "put(0, 4, 0, 5) = 0", "open(0, false) = 0", "read(0) = 3", "read(0) = 2", "remove(0, 0) = false",
            "open(0, true) = 0", "read(0) = 3", "held(0) = 5", "wrong(0) = 1", "read(0) = 1", "held(0) = 4",
            "stored(0, 0) = NONE", "wrong(0) = 0", "stored(0, 1) = 2", "stored(0, 4) = 5");
        Check.run("a full round leaves other catalogues", "put(1, 0, 0, 1) = 0", "open(1, false) = 0",
            "read(1) = 1", "open(0, true) = 0", "read(0) = 0", "held(1) = 1");
        Check.run("what is gone when it was taken over stays until the next full round",
            "setCatalogue(0, 1, NEVER) = 1", "put(0, 0, 0, 1) = 0", "put(0, 1, 0, 1) = 0", "put(0, 2, 0, 1) = 0",
            "put(0, 3, 0, 1) = 0", "open(0, true) = 0", "read(0) = 3", "remove(0, 0) = false", "read(0) = 1",
            "held(0) = 4", "wrong(0) = 1", "open(0, true) = 0", "read(0) = 3", "held(0) = 3", "wrong(0) = 0");
        Check.run("a record ahead of the place is dropped, though it is there", "pass(35) = 35",
            "put(0, 0, 0, 1) = 35", "put(0, 1, 0, 1) = 35", "put(0, 2, 0, 1) = 35", "put(0, 3, 0, 1) = 35",
            "open(0, false) = 0", "read(0) = 3", "read(0) = 1", "open(0, true) = 0", "read(0) = 3",
            "setCatalogue(0, 30, FOREVER) = 1", "put(0, 3, 0, 2) = 30", "read(0) = 0", "held(0) = 3",
            "stored(0, 3) = NONE", "wrong(0) = 1");
    }

    private static void fullRoundsForgetWhatWasReadBeforeTheLastOpening() {
        Check.run("opened again for its token", "setCatalogue(0, 1, NEVER) = 1", "put(0, 0, 0, 1) = 0",
            "put(0, 1, 0, 1) = 0", "put(0, 2, 0, 1) = 0", "put(0, 3, 0, 1) = 0", "open(0, true) = 0",
            "read(0) = 3", "remove(0, 0) = false", "pass(6) = 6", "read(0) = 3", "isOpen(0) = false",
            "held(0) = 3", "stored(0, 0) = NONE", "wrong(0) = 0");
        Check.run("opened by a call", "setCatalogue(0, 1, NEVER) = 1", "put(0, 0, 0, 1) = 0",
            "put(0, 1, 0, 1) = 0", "put(0, 2, 0, 1) = 0", "put(0, 3, 0, 1) = 0", "open(0, true) = 0",
            "read(0) = 3", "remove(0, 0) = false", "open(0, true) = 0", "read(0) = 3", "isOpen(0) = false",
            "held(0) = 3", "wrong(0) = 0");
    }

    private static void marks() {
        Check.run("promise 12", "pass(9) = 9", "put(0, 0, 0, 0) = 9", "put(0, 1, 0, 0) = 9", "put(0, 2, 0, 0) = 9",
            "put(0, 3, 0, 0) = 9", "open(0, false) = 0", "mark(0) = 0", "pass(1) = 10", "read(0) = 3",
            "mark(0) = 0", "pass(1) = 11", "read(0) = 1", "mark(0) = 9", "mark(1) = 0");
        Check.run("promise 12, by the unit", "setCatalogue(3, 7, FOREVER) = 1", "pass(20) = 20",
            "open(3, true) = 0", "pass(3) = 23", "read(3) = 0", "mark(3) = 14", "setCatalogue(3, 10, WHILE) = 7",
            "mark(3) = 14", "open(3, false) = 14", "read(3) = 0", "mark(3) = 20");
        Check.run("promise 12, by the unit when the list is done", "pass(23) = 23", "open(0, false) = 0",
            "setCatalogue(0, 10, FOREVER) = 1", "read(0) = 0", "mark(0) = 20");
        Check.run("promise 12, a coarser clock sets it back", "pass(23) = 23", "open(0, false) = 0",
            "read(0) = 0", "mark(0) = 23", "setCatalogue(0, 10, FOREVER) = 1", "open(0, false) = 23",
            "read(0) = 0", "mark(0) = 20");
    }

    private static void isOpen() {
        Check.run("promise 11", "isOpen(2) = false", "open(2, false) = 0", "isOpen(2) = true", "isOpen(1) = false",
            "isOpen(3) = false", "pass(50) = 50", "isOpen(2) = true", "read(2) = 0", "isOpen(2) = false",
            "isOpen(-1) = throws.IllegalArgumentException", "isOpen(4) = throws.IllegalArgumentException",
            "isOpen(MIN) = throws.IllegalArgumentException");
    }

    private static void refused() {
        Check.run("promises 9, 10 and 12, refused", "put(0, 0, 0, 0) = 0",
            "open(-1, true) = throws.IllegalArgumentException", "open(4, false) = throws.IllegalArgumentException",
            "open(MAX, false) = throws.IllegalArgumentException", "read(-1) = throws.IllegalArgumentException",
            "read(4) = throws.IllegalArgumentException", "read(MIN) = throws.IllegalArgumentException",
            "read(0) = throws.IllegalStateException", "read(3) = throws.IllegalStateException",
            "mark(-1) = throws.IllegalArgumentException", "mark(4) = throws.IllegalArgumentException",
            "mark(MAX) = throws.IllegalArgumentException", "held(0) = 0", "open(0, false) = 0",
            "read(1) = throws.IllegalStateException", "read(0) = 1", "held(0) = 1");
    }
}
