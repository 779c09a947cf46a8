/** The document ahead of its promises: a run for each sentence, whose words are its name. */
final class TermsTest {
    public static void main(String[] args) {
        whatItIs();
        the512Calls();
        daysAndNumbers();
        refusals();
        aCatalogue();
        aRecord();
        stamps();
        toldDeletes();
        lists();
        pages();
        marksAndOpenLists();
        openingAList();
        takingOver();
        tokens();
        listsThatAreDone();
        fullRounds();
        works();
        Check.end();
    }

    private static void whatItIs() {
        new Rows().add("setCatalogue(0, 7, FOREVER) = 1").to(8).add("put(0, 5, 0, 1) = 7", "open(0, false) = 0",
            "read(0) = 1", "mark(0) = 7").to(9).add("put(0, 4, 0, 2) = 7", "wrong(0) = 1", "open(0, false) = 7",
            "read(0) = 2", "wrong(0) = 0", "mark(0) = 7").to(14).add("open(0, false) = 7", "read(0) = 2",
            "mark(0) = 14", "open(0, false) = 14", "read(0) = 0").check("stamps by coarse clocks, rounds that overlap");
        new Rows().add("put(0, 3, 1, 100) = 0", "far(0) = 1", "told(0) = 0", "wrong(0) = 1", "pass(2) = 2",
            "open(0, false) = 0", "read(0) = 1", "stored(0, 3) = 100", "wrong(0) = 0", "copies(1) = 1", "best(1) = 3",
            "remove(0, 3) = true", "far(0) = 0", "told(0) = 1", "stored(0, 3) = 100", "wrong(0) = 1")
            .check("Records of far catalogues are put and removed, days pass, the harvester opens lists and reads "
                + "pages; what the store holds, whether it is as the far one, and works can be asked for.");
    }

    private static void the512Calls() {
        CatalogueHarvester x = new CatalogueHarvester();
        for (int call = 1; call <= 509; call++) {
            Check.same("call " + call + ": put", x.put(call % 4, call % 20, call % 10, call), 0);
        }
        Check.same("call 510: open", x.open(1, false), 0);
        Check.same("call 511: read", x.read(1), 3);
        // Record 1 of catalogue 1 was put last by call 501, records 5 and 9 by 505 and 509.
        Check.same("call 512: stored", x.stored(1, 1), 501);
    }

    private static void daysAndNumbers() {
        new Rows().add("today() = 0", "put(0, 0, 0, 0) = 0", "pass(1) = 1", "today() = 1", "put(0, 0, 0, 0) = 1")
            .check("Days are numbered from 0; today is 0 at first.");
        Rows rows = new Rows();
        for (int c = 0; c < 4; c++) {
            int catalogue = c;
            rows.each(0, 19, r -> "put(" + catalogue + ", " + r + ", " + r / 2 + ", " + r * catalogue + ") = 0")
                .add("far(" + c + ") = 20", "open(" + c + ", false) = 0").readAll(c, 20)
                .each(0, 19, r -> "stored(" + catalogue + ", " + r + ") = " + r * catalogue);
        }
        rows.each(0, 9, w -> "copies(" + w + ") = 8").each(0, 9, w -> "best(" + w + ") = " + 2 * w)
            .refuse("put(#, 0, 0, 0)", 0, 3).refuse("put(0, #, 0, 0)", 0, 19).refuse("put(0, 0, #, 0)", 0, 9)
            .check("There are the catalogues 0 to 3, the records 0 to 19 of each, and the works 0 to 9.");
    }

    private static void refusals() {
        new Rows().refuse("setCatalogue(#, 1, 0)", 0, 3).refuse("setCatalogue(0, #, 0)", 1, 30)
            .refuse("setCatalogue(0, 1, #)", 0, 2).refuse("put(#, 0, 0, 0)", 0, 3).refuse("put(0, #, 0, 0)", 0, 19)
            .refuse("put(0, 0, #, 0)", 0, 9).refuse("put(0, 0, 0, #)", 0, 1000).refuse("pass(#)", 1, 100)
            .refuse("far(#)", 0, 3).refuse("told(#)", 0, 3).refuse("open(#, false)", 0, 3).refuse("open(#, true)", 0, 3)
            .refuse("isOpen(#)", 0, 3).refuse("mark(#)", 0, 3).refuse("stored(#, 0)", 0, 3)
            .refuse("stored(0, #)", 0, 19).refuse("held(#)", 0, 3).refuse("wrong(#)", 0, 3).refuse("copies(#)", 0, 9)
            .refuse("best(#)", 0, 9).check("A method throws IllegalArgumentException if an argument is out of range");
        new Rows().add("remove(0, 0) = throws.IllegalStateException", "read(0) = throws.IllegalStateException")
            .to(5000).add("pass(1) = throws.IllegalStateException").check("and IllegalStateException as it documents");
        new Rows().refuse("remove(#, 0)", 0, 3).refuse("remove(0, #)", 0, 19).refuse("read(#)", 0, 3).to(5000)
            .refuse("pass(#)", 1, 100).check("if both apply, IllegalArgumentException is thrown.");
        new Rows().add("setCatalogue(0, 5, WHILE) = 1").to(7).add("put(0, 0, 1, 10) = 5", "put(0, 1, 1, 11) = 5",
            "put(0, 2, 1, 12) = 5", "put(0, 3, 1, 13) = 5", "remove(0, 3) = true", "open(0, true) = 0", "read(0) = 3")
            .to(12).add("setCatalogue(0, 31, NEVER) = throws.IllegalArgumentException",
                "setCatalogue(0, 1, 3) = throws.IllegalArgumentException",
                "put(0, 0, 2, 1001) = throws.IllegalArgumentException",
                "put(0, 3, 10, 0) = throws.IllegalArgumentException",
                "put(0, 3, 1, -1) = throws.IllegalArgumentException", "told(0) = 1",
                "remove(0, 3) = throws.IllegalStateException", "remove(0, 20) = throws.IllegalArgumentException",
                "pass(101) = throws.IllegalArgumentException", "open(4, false) = throws.IllegalArgumentException",
                "read(1) = throws.IllegalStateException", "read(-1) = throws.IllegalArgumentException",
                "today() = 12", "far(0) = 3", "told(0) = 1", "isOpen(0) = true", "read(0) = 1",
                "mark(0) = 5", "wrong(0) = 0", "put(0, 4, 0, 0) = 10").to(16).add("told(0) = 1").to(17)
            .add("told(0) = 0").check("A call that throws changes nothing.");
    }

    private static void aCatalogue() {
        new Rows().to(29).each(0, 3, c -> "put(" + c + ", 0, 0, 0) = 29")
            .each(0, 3, c -> "remove(" + c + ", 0) = true").to(100).each(0, 3, c -> "told(" + c + ") = 1")
            .each(0, 3, c -> "setCatalogue(" + c + ", 1, FOREVER) = 1")
            .check("A catalogue has a clock with a unit, 1 at first, and a way with deletes, FOREVER at first.");
        new Rows().add("setCatalogue(1, 10, NEVER) = 1").to(19).each(0, 3, c -> "put(" + c + ", 0, 0, 0) = "
            + (c == 1 ? 10 : 19)).each(0, 3, c -> "remove(" + c + ", 0) = " + (c != 1))
            .check("A catalogue has a clock and a way of its own");
    }

    private static void aRecord() {
        new Rows().each(0, 3, c -> "far(" + c + ") = 0").each(0, 79,
            k -> "remove(" + k / 20 + ", " + k % 20 + ") = throws.IllegalStateException")
            .add("put(2, 7, 4, 30) = 0", "far(2) = 1", "remove(2, 7) = true", "far(2) = 0",
                "remove(2, 7) = throws.IllegalStateException").check("A record is there or not, at first not");
        new Rows().to(3).add("put(2, 7, 4, 30) = 3", "open(2, false) = 0", "read(2) = 1", "copies(4) = 1",
            "best(4) = 207", "stored(2, 7) = 30", "wrong(2) = 0", "put(2, 7, 5, 30) = 3", "wrong(2) = 1",
            "put(2, 7, 4, 31) = 3", "wrong(2) = 1", "put(2, 7, 4, 30) = 3", "wrong(2) = 0").to(4)
            .add("put(2, 7, 4, 30) = 4", "wrong(2) = 1").check("one that is there has a work, a value and a stamp.");
    }

    private static void stamps() {
        Rows rows = new Rows().add("setCatalogue(0, 2, FOREVER) = 1", "setCatalogue(1, 7, FOREVER) = 1",
            "setCatalogue(2, 30, FOREVER) = 1");
        for (int day = 0; day <= 61; day++) {
            rows.to(day).add("put(0, 0, 0, 0) = " + day / 2 * 2, "put(1, 0, 0, 0) = " + day / 7 * 7,
                "put(2, 0, 0, 0) = " + day / 30 * 30, "put(3, 0, 0, 0) = " + day);
        }
        rows.check("The stamp of a change is today, less today modulo the unit of the clock.");
    }

    private static void toldDeletes() {
        new Rows().add("setCatalogue(0, 5, FOREVER) = 1").putEach(0, 0, 3, 0).add("open(0, false) = 0").readAll(0, 4)
            .to(9).add("far(0) = 4", "told(0) = 0", "remove(0, 0) = true", "far(0) = 3", "told(0) = 1",
                "open(0, false) = 0", "read(0) = 3", "stored(0, 0) = 0", "read(0) = 1", "stored(0, 0) = NONE")
            .putEach(0, 1, 3, 5).add("open(0, true) = 0").readAll(0, 4).add("put(0, 0, 0, 0) = 5",
                "open(0, false) = 5").readAll(0, 4).add("remove(0, 0) = true", "open(0, false) = 5", "read(0) = 3",
                "stored(0, 0) = NONE", "read(0) = 1")
            .check("When a record is removed, a told delete takes its place, with the stamp of the removal");
        new Rows().putEach(0, 0, 1, 0).removeEach(0, 0, 1, true).to(4000).add("told(0) = 2", "put(0, 0, 0, 0) = 4000",
            "told(0) = 1").to(5000).add("told(0) = 1", "open(0, false) = 0", "read(0) = 2")
            .check("by FOREVER it stays until the record is put again");
        new Rows().add("setCatalogue(0, 7, WHILE) = 1").to(6).putEach(0, 0, 1, 0).removeEach(0, 0, 1, true).to(15)
            .add("told(0) = 2", "put(0, 1, 0, 0) = 14", "told(0) = 1", "open(0, false) = 0", "read(0) = 2").to(16)
            .add("told(0) = 0", "far(0) = 1", "open(0, false) = 14", "read(0) = 1", "open(0, true) = 0", "read(0) = 1")
            .check("by WHILE until then or until 10 days have passed since the day of the removal (on the 10th day "
                + "behind it, it is gone)");
        new Rows().add("setCatalogue(0, 1, NEVER) = 1").putEach(0, 0, 1, 0).removeEach(0, 0, 1, false)
            .add("told(0) = 0", "far(0) = 0", "open(0, false) = 0", "read(0) = 0").check("by NEVER there is none.");
    }

    private static void lists() {
        new Rows().putEach(0, 0, 1, 0).to(1).putEach(0, 2, 3, 1).add("remove(0, 0) = true", "open(0, false) = 0")
            .readAll(0, 4).add("mark(0) = 1").to(2).putEach(0, 4, 4, 2).add("remove(0, 2) = true",
                "open(0, false) = 1", "read(0) = 3", "read(0) = 1", "mark(0) = 2", "open(0, false) = 2").readAll(0, 2)
            .check("A list of a catalogue from a stamp on has the records that are there and the told deletes with "
                + "this stamp or a later one");
        new Rows().putEach(0, 0, 9, 0).add("open(0, true) = 0").readAll(0, 10).to(1)
            .add("put(0, 1, 0, 101) = 1", "remove(0, 2) = true", "put(0, 0, 0, 100) = 1").to(2).add(
                "put(0, 8, 0, 108) = 2", "open(0, false) = 0", "read(0) = 3", "read(0) = 3", "stored(0, 0) = 0",
                "read(0) = 3", "stored(0, 0) = 100", "stored(0, 1) = 101", "stored(0, 2) = NONE", "stored(0, 8) = 8",
                "read(0) = 1", "stored(0, 8) = 108", "wrong(0) = 0")
            .check("by rising stamps, of several by rising numbers");
        new Rows().putEach(0, 0, 6, 0).add("open(0, false) = 0", "read(0) = 3", "put(0, 3, 1, 103) = 0",
            "remove(0, 4) = true", "put(0, 7, 0, 7) = 0", "put(0, 1, 0, 101) = 0", "setCatalogue(0, 1, NEVER) = 1",
            "remove(0, 5) = false", "read(0) = 3", "isOpen(0) = false", "stored(0, 1) = 1", "stored(0, 3) = 103",
            "copies(1) = 1", "stored(0, 4) = NONE", "stored(0, 5) = NONE", "stored(0, 6) = 6", "stored(0, 7) = 7")
            .check("always as the catalogue is when a page is read.");
    }

    private static void pages() {
        new Rows().putEach(0, 10, 17, 0).add("open(0, false) = 0", "read(0) = 3", "held(0) = 3", "stored(0, 12) = 12",
            "read(0) = 3", "held(0) = 6", "stored(0, 15) = 15", "read(0) = 2", "held(0) = 8")
            .check("A page has the first 3 of these that are behind the place of the list, or fewer, if there are no "
                + "more");
        new Rows().add("setCatalogue(0, 30, FOREVER) = 1").putEach(0, 3, 5, 0).putEach(0, 7, 7, 0)
            .add("open(0, false) = 0", "read(0) = 3").putEach(0, 2, 2, 0).putEach(0, 5, 6, 0).to(5)
            .add("read(0) = 2", "isOpen(0) = false", "stored(0, 2) = NONE", "stored(0, 6) = 6", "stored(0, 7) = 7")
            .check("then the place is that of the last one read, its stamp and number: of its stamp");
        new Rows().to(1).putEach(0, 3, 6, 1).add("open(0, true) = 0", "read(0) = 3").to(2).putEach(0, 2, 2, 2)
            .putEach(0, 5, 5, 2).add("read(0) = 3", "isOpen(0) = false", "stored(0, 2) = 2", "wrong(0) = 0")
            .check("then the place is that of the last one read, its stamp and number: of later stamps");
    }

    private static void marksAndOpenLists() {
        new Rows().each(0, 3, c -> "mark(" + c + ") = 0").each(0, 3, c -> "isOpen(" + c + ") = false").to(4)
            .each(0, 3, c -> "open(" + c + ", false) = 0").each(0, 3, c -> "mark(" + c + ") = 0")
            .add("read(1) = 0").each(0, 3, c -> "mark(" + c + ") = " + (c == 1 ? 4 : 0))
            .each(0, 3, c -> "isOpen(" + c + ") = " + (c != 1)).add("open(2, true) = 0", "read(2) = 0",
                "isOpen(2) = false", "read(2) = throws.IllegalStateException")
            .check("For each catalogue the harvester has a mark, which is a stamp, 0 at first, and at most one open "
                + "list.");
    }

    private static void openingAList() {
        new Rows().add("setCatalogue(0, 1, NEVER) = 1").putEach(0, 0, 3, 0).to(2).putEach(0, 4, 4, 2)
            .add("open(0, false) = 0").readAll(0, 5).add("mark(0) = 2", "open(0, false) = 2").readAll(0, 1)
            .add("open(0, true) = 0").readAll(0, 5).add("open(0, false) = 2")
            .check("To open a list is to begin it from the mark on, or, for a full one, from 0 on");
        new Rows().putEach(0, 0, 3, 0).add("open(0, false) = 0", "read(0) = 3", "open(0, false) = 0").readAll(0, 4)
            .add("open(0, true) = 0", "read(0) = 3", "open(0, true) = 0").readAll(0, 4)
            .check("with the place ahead of all");
        new Rows().add("setCatalogue(0, 1, NEVER) = 1").putEach(0, 0, 0, 0).add("open(0, false) = 0", "read(0) = 1",
            "remove(0, 0) = false", "open(0, true) = 0", "open(0, false) = 0", "read(0) = 0", "held(0) = 1",
            "read(0) = throws.IllegalStateException", "open(0, false) = 0", "open(0, true) = 0", "read(0) = 0",
            "held(0) = 0", "read(0) = throws.IllegalStateException").check("in place of one that was open.");
    }

    private static void takingOver() {
        new Rows().to(3).add("put(1, 0, 4, 44) = 3", "put(1, 1, 5, 55) = 3", "open(1, false) = 0", "read(1) = 2",
            "stored(1, 0) = 44", "stored(1, 1) = 55", "copies(4) = 1", "copies(5) = 1", "best(4) = 100", "wrong(1) = 0")
            .to(4).add("put(1, 0, 6, 66) = 4", "put(0, 2, 6, 0) = 4", "open(0, false) = 0", "read(0) = 1",
                "stored(1, 0) = 44", "open(1, false) = 3", "read(1) = 2", "stored(1, 0) = 66", "copies(4) = 0",
                "copies(6) = 2", "best(6) = 2", "wrong(1) = 0").to(5).add("put(1, 0, 6, 66) = 5", "best(6) = 2",
                "open(1, false) = 4", "read(1) = 1", "best(6) = 100")
            .check("When the harvester reads a page, it takes over each record into its store, with work, value and "
                + "stamp");
        new Rows().putEach(0, 0, 4, 0).add("open(0, false) = 0").readAll(0, 5).add("remove(0, 1) = true",
            "remove(0, 4) = true", "open(0, false) = 0", "held(0) = 5", "read(0) = 3", "held(0) = 4",
            "stored(0, 1) = NONE", "stored(0, 4) = 4", "read(0) = 2", "held(0) = 3", "stored(0, 4) = NONE",
                "wrong(0) = 0").check("and drops each record with a told delete from its store.");
    }

    private static void tokens() {
        new Rows().putEach(0, 0, 6, 0).add("open(0, false) = 0", "read(0) = 3").to(5).add("read(0) = 3").to(10)
            .readAll(0, 1).add("mark(0) = 0").to(11).add("open(0, false) = 0", "read(0) = 3").to(16).add("read(0) = 3")
            .to(22).readAll(0, 7).add("mark(0) = 22")
            .check("If more than 5 days have passed since the last page of the list was read, its token has aged");
        new Rows().putEach(0, 0, 3, 0).add("open(0, false) = 0").to(5).readAll(0, 4).add("mark(0) = 0",
            "open(0, false) = 0").to(11).readAll(0, 4).add("mark(0) = 11", "open(0, false) = 11").to(16)
            .add("open(0, true) = 0").to(21).readAll(0, 4).add("mark(0) = 16")
            .check("or, without one, since the list was opened");
        new Rows().add("setCatalogue(0, 1, NEVER) = 1").putEach(0, 0, 3, 0).to(1).add("open(0, false) = 0")
            .readAll(0, 4).to(2).putEach(0, 1, 1, 2).add("remove(0, 0) = false", "open(0, false) = 1").to(8)
            .readAll(0, 1).add("held(0) = 4", "mark(0) = 8", "open(0, true) = 0").to(14).readAll(0, 3)
            .add("held(0) = 3", "mark(0) = 14").check("then it is opened again, as it was opened before");
        new Rows().putEach(0, 0, 4, 0).add("open(0, false) = 0", "read(0) = 3", "put(0, 0, 0, 100) = 0",
            "put(0, 3, 0, 103) = 0").to(6).add("isOpen(0) = true", "stored(0, 0) = 0", "read(0) = 3",
                "stored(0, 0) = 100", "stored(0, 3) = NONE").to(11).add("read(0) = 2", "stored(0, 3) = 103",
                "isOpen(0) = false", "mark(0) = 6").check("and the first page is read.");
    }

    private static void listsThatAreDone() {
        new Rows().add("open(3, false) = 0", "isOpen(3) = true", "read(3) = 0", "isOpen(3) = false",
            "read(3) = throws.IllegalStateException").putEach(0, 0, 5, 0).add("open(0, false) = 0", "read(0) = 3",
                "isOpen(0) = true", "read(0) = 3", "isOpen(0) = false", "read(0) = throws.IllegalStateException",
                "open(0, false) = 0", "read(0) = 3", "put(0, 6, 0, 6) = 0", "read(0) = 3", "isOpen(0) = true",
                "read(0) = 1", "isOpen(0) = false")
            .check("When behind a page there is nothing more in the list, the list is done: it is closed");
        new Rows().add("setCatalogue(1, 10, FOREVER) = 1").putEach(0, 0, 3, 0).to(19).add("open(1, false) = 0",
            "open(0, false) = 0").to(21).add("read(0) = 3", "mark(0) = 0", "read(1) = 0", "mark(1) = 10").to(22)
            .add("read(0) = 1", "mark(0) = 19", "open(1, true) = 0").to(23).add("open(1, false) = 10",
                "open(0, false) = 19", "read(0) = 0", "mark(0) = 23").to(29).add("read(1) = 0", "mark(1) = 20",
                "open(1, false) = 20").to(39).add("read(1) = 0", "mark(1) = 30", "open(1, false) = 30", "read(1) = 0",
                "mark(1) = 30", "open(1, false) = 30", "setCatalogue(1, 15, FOREVER) = 10", "read(1) = 0",
                "mark(1) = 30", "open(1, false) = 30", "setCatalogue(1, 20, FOREVER) = 15", "mark(1) = 30",
                "read(1) = 0", "mark(1) = 20")
            .check("the mark becomes the day on which it was opened last, less this day modulo the unit");
    }

    private static void fullRounds() {
        new Rows().add("setCatalogue(0, 1, NEVER) = 1").putEach(0, 0, 7, 0).putEach(1, 0, 0, 0)
            .add("open(1, false) = 0", "read(1) = 1", "open(0, false) = 0").readAll(0, 8).removeEach(0, 0, 1, false)
            .add("remove(0, 7) = false", "open(0, true) = 0", "read(0) = 3", "held(0) = 8", "remove(0, 2) = false",
                "read(0) = 2", "isOpen(0) = false", "held(0) = 5", "stored(0, 0) = NONE", "stored(0, 1) = NONE",
                "stored(0, 2) = 2", "stored(0, 6) = 6", "stored(0, 7) = NONE", "wrong(0) = 1", "held(1) = 1")
            .check("and, if it was a full one, each record of the store that was neither taken over nor dropped is "
                + "dropped.");
        new Rows().add("setCatalogue(0, 1, NEVER) = 1").putEach(0, 0, 3, 0).add("open(0, false) = 0").readAll(0, 4)
            .add("remove(0, 3) = false", "open(0, false) = 0").readAll(0, 3).add("held(0) = 4", "open(0, true) = 0")
            .add("open(0, false) = 0").readAll(0, 3).add("held(0) = 4").check("if it was not a full one, it stays");
        new Rows().add("setCatalogue(0, 1, NEVER) = 1").putEach(0, 0, 3, 0).add("open(0, true) = 0", "read(0) = 3",
            "remove(0, 0) = false").to(6).readAll(0, 3).add("held(0) = 3", "open(0, true) = 0", "read(0) = 3",
                "isOpen(0) = false", "open(0, false) = 6").putEach(0, 4, 6, 6).add("open(0, true) = 0", "read(0) = 3",
                "remove(0, 1) = false", "open(0, true) = 0").readAll(0, 5).add("stored(0, 1) = NONE", "held(0) = 5")
            .check("since it was opened last");
    }

    private static void works() {
        new Rows().each(0, 3, c -> "put(" + c + ", " + c + ", 2, 0) = 0").add("put(0, 9, 2, 0) = 0",
            "put(1, 9, 3, 0) = 0", "copies(2) = 0", "best(2) = NONE").each(0, 3, c -> "open(" + c + ", false) = 0")
            .add("read(3) = 1", "copies(2) = 1", "best(2) = 303", "read(0) = 2", "copies(2) = 3", "read(1) = 2",
                "read(2) = 1", "copies(2) = 5", "copies(3) = 1", "copies(0) = 0", "best(0) = NONE")
            .check("The records of the store with the same work, of all catalogues, make this work.");
        new Rows().to(1).add("put(0, 4, 7, 900) = 1", "put(2, 5, 7, 900) = 1").to(2).add("put(2, 6, 7, 0) = 2",
            "put(1, 8, 6, 0) = 2").each(0, 2, c -> "open(" + c + ", false) = 0").add("read(0) = 1", "best(7) = 4",
                "read(2) = 2", "best(7) = 206", "read(1) = 1", "best(7) = 206", "best(6) = 108")
            .check("Its best record is the one with the greatest stamp");
        new Rows().each(0, 3, c -> "put(" + c + ", " + (10 - c) + ", 7, " + c + ") = 0").add("open(2, false) = 0",
            "read(2) = 1", "best(7) = 208", "open(3, false) = 0", "read(3) = 1", "best(7) = 208", "open(1, false) = 0",
            "read(1) = 1", "best(7) = 109", "open(0, false) = 0", "read(0) = 1", "best(7) = 10")
            .check("of several that of the catalogue with the lowest number");
        new Rows().add("put(3, 12, 7, 5) = 0", "put(3, 11, 7, 4) = 0", "put(3, 13, 7, 6) = 0", "open(3, false) = 0",
            "read(3) = 3", "best(7) = 311", "put(3, 2, 7, 0) = 0", "open(3, false) = 0").readAll(3, 4)
            .add("best(7) = 302").check("of several the one with the lowest number.");
    }
}
