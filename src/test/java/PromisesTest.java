/** The promises 1 to 17: a run for each of their sentences, whose words are its name. */
final class PromisesTest {
    public static void main(String[] args) {
        promise1();
        promise2();
        promise3();
        promise4();
        promise5And6();
        promise7And8();
        promise9();
        promise10();
        promise11();
        promise12();
        promise13();
        promise14();
        promise15();
        promise16();
        promise17();
        Check.end();
    }

    private static void promise1() {
        new Rows().each(0, 3, c -> "far(" + c + ") = 0").each(0, 3, c -> "told(" + c + ") = 0")
            .each(0, 3, c -> "open(" + c + ", true) = 0").each(0, 3, c -> "read(" + c + ") = 0")
            .check("1: Empty catalogues");
        new Rows().each(0, 79, k -> "stored(" + k / 20 + ", " + k % 20 + ") = NONE")
            .each(0, 3, c -> "held(" + c + ") = 0").each(0, 3, c -> "wrong(" + c + ") = 0")
            .each(0, 9, w -> "copies(" + w + ") = 0").each(0, 9, w -> "best(" + w + ") = NONE")
            .check("1: an empty store");
        new Rows().add("today() = 0", "put(0, 0, 0, 0) = 0", "pass(1) = 1").check("1: today is 0.");
        CatalogueHarvester x = new CatalogueHarvester();
        CatalogueHarvester y = new CatalogueHarvester();
        Check.same("1: pass of x", x.pass(7), 7);
        Check.same("1: put of x", x.put(0, 0, 0, 1), 7);
        Check.same("1: today of y", y.today(), 0);
        Check.same("1: far of y", y.far(0), 0);
        Check.same("1: today of a third", new CatalogueHarvester().today(), 0);
    }

    private static void promise2() {
        new Rows().add("setCatalogue(0, 10, NEVER) = 1", "setCatalogue(1, 3, WHILE) = 1",
            "setCatalogue(2, 30, FOREVER) = 1").to(29).add("put(0, 0, 0, 0) = 20", "put(1, 0, 0, 0) = 27",
                "put(2, 0, 0, 0) = 0", "put(3, 0, 0, 0) = 29", "remove(0, 0) = false", "remove(1, 0) = true",
                "remove(2, 0) = true").to(39).add("told(0) = 0", "told(1) = 0", "told(2) = 1")
            .check("2: Sets the clock and the way with deletes of a catalogue");
        new Rows().to(29).putEach(0, 0, 3, 29).add("remove(0, 3) = true", "open(0, false) = 0").readAll(0, 4)
            .add("setCatalogue(0, 30, FOREVER) = 1", "wrong(0) = 0", "told(0) = 1", "best(0) = 0",
                "open(0, false) = 29")
            .readAll(0, 4).add("wrong(0) = 0", "put(0, 4, 0, 4) = 0", "open(0, true) = 0", "read(0) = 3",
                "stored(0, 4) = 4", "stored(0, 2) = 2", "read(0) = 2").add("setCatalogue(0, 1, WHILE) = 30")
            .to(38).add("told(0) = 1", "setCatalogue(0, 9, FOREVER) = 1", "told(0) = 1").to(200).add("told(0) = 1",
                "wrong(0) = 0").check("2: stamps and told deletes that are there stay");
        new Rows().putEach(0, 0, 1, 0).putEach(1, 0, 0, 0).add("remove(0, 0) = true", "remove(1, 0) = true",
            "setCatalogue(0, 1, NEVER) = 1", "told(0) = 0", "told(1) = 1", "far(0) = 1", "open(0, false) = 0",
            "read(0) = 1").check("2: but by NEVER told deletes go");
        new Rows().putEach(0, 0, 2, 0).add("remove(0, 0) = true").to(1).add("remove(0, 1) = true").to(2)
            .add("remove(0, 2) = true").to(11).add("told(0) = 3", "setCatalogue(0, 1, WHILE) = 1", "told(0) = 1",
                "open(0, false) = 0", "read(0) = 1", "setCatalogue(0, 1, WHILE) = 1", "told(0) = 1",
                "setCatalogue(0, 1, FOREVER) = 1", "told(0) = 1").to(12)
            .add("told(0) = 1", "setCatalogue(0, 1, WHILE) = 1", "told(0) = 0")
            .check("2: and by WHILE those whose days have passed.");
        new Rows().each(1, 30, u -> "setCatalogue(3, " + u + ", FOREVER) = " + Math.max(1, u - 1))
            .add("setCatalogue(3, 30, WHILE) = 30", "setCatalogue(2, 5, NEVER) = 1")
            .check("2: Returns the unit before.");
        new Rows().refuse("setCatalogue(#, 1, WHILE)", 0, 3).refuse("setCatalogue(3, #, WHILE)", 1, 30)
            .refuse("setCatalogue(3, 30, #)", 0, 2).add("setCatalogue(3, 1, FOREVER) = 1")
            .check("2: Throws IllegalArgumentException if an argument is out of range");
    }

    private static void promise3() {
        new Rows().add("far(1) = 0", "put(1, 6, 2, 20) = 0", "far(1) = 1", "open(1, false) = 0", "read(1) = 1",
            "stored(1, 6) = 20", "copies(2) = 1", "put(1, 6, 3, 30) = 0", "far(1) = 1", "open(1, false) = 0",
            "read(1) = 1", "stored(1, 6) = 30", "copies(2) = 0", "copies(3) = 1")
            .check("3: Puts a record, or changes it.");
        new Rows().add("setCatalogue(1, 4, FOREVER) = 1").to(3).add("put(1, 0, 0, 0) = 0", "put(0, 0, 0, 0) = 3").to(7)
            .add("put(1, 0, 0, 0) = 4", "put(1, 1, 0, 0) = 4", "put(0, 0, 0, 0) = 7").check("3: Returns its stamp.");
        new Rows().refuse("put(#, 19, 9, 1000)", 0, 3).refuse("put(3, #, 9, 1000)", 0, 19)
            .refuse("put(3, 19, #, 1000)", 0, 9).refuse("put(3, 19, 9, #)", 0, 1000).add("far(3) = 0",
                "put(3, 19, 9, 1000) = 0", "put(0, 0, 0, 0) = 0")
            .check("3: Throws IllegalArgumentException if an argument is out of range");
    }

    private static void promise4() {
        new Rows().putEach(2, 3, 5, 0).add("remove(2, 4) = true", "far(2) = 2", "open(2, true) = 0", "read(2) = 3",
            "stored(2, 3) = 3", "stored(2, 4) = NONE", "stored(2, 5) = 5", "put(2, 4, 0, 4) = 0", "far(2) = 3")
            .check("4: Removes a record.");
        new Rows().each(0, 2, c -> "setCatalogue(" + c + ", 1, " + c + ") = 1")
            .each(0, 3, c -> "put(" + c + ", 0, 0, 0) = 0").each(0, 3, c -> "remove(" + c + ", 0) = " + (c != 2))
            .each(0, 3, c -> "told(" + c + ") = " + (c != 2 ? 1 : 0))
            .check("4: Returns whether there is a told delete of it then.");
        new Rows().putEach(3, 19, 19, 0).refuse("remove(#, 19)", 0, 3).refuse("remove(3, #)", 0, 19)
            .add("far(3) = 1", "remove(3, 19) = true")
            .check("4: Throws IllegalArgumentException if an argument is out of range");
        new Rows().add("remove(0, 0) = throws.IllegalStateException", "put(0, 0, 0, 0) = 0", "remove(0, 0) = true",
            "remove(0, 0) = throws.IllegalStateException", "remove(0, 1) = throws.IllegalStateException",
            "remove(1, 0) = throws.IllegalStateException", "setCatalogue(0, 1, NEVER) = 1",
            "remove(0, 0) = throws.IllegalStateException", "put(0, 0, 0, 0) = 0", "remove(0, 0) = false",
            "remove(0, 0) = throws.IllegalStateException", "put(0, 1, 0, 0) = 0", "open(0, false) = 0", "read(0) = 1",
            "remove(0, 1) = false", "stored(0, 1) = 0", "remove(0, 1) = throws.IllegalStateException")
            .check("4: Throws IllegalStateException if the record is not there");
    }

    private static void promise5And6() {
        new Rows().add("put(0, 0, 0, 0) = 0", "pass(1) = 1", "put(0, 0, 0, 0) = 1", "pass(100) = 101",
            "put(0, 0, 0, 0) = 101", "pass(37) = 138", "today() = 138").check("5: Lets days pass. Returns today then.");
        new Rows().refuse("pass(#)", 1, 100).add("today() = 0", "pass(100) = 100", "pass(1) = 101")
            .check("5: Throws IllegalArgumentException if days is out of range");
        new Rows().add("setCatalogue(0, 1, WHILE) = 1", "put(0, 0, 0, 0) = 0").to(4950).add("remove(0, 0) = true",
            "pass(51) = throws.IllegalStateException", "pass(100) = throws.IllegalStateException", "today() = 4950",
            "told(0) = 1", "pass(9) = 4959", "told(0) = 1", "pass(41) = 5000", "told(0) = 0",
            "pass(1) = throws.IllegalStateException", "today() = 5000")
            .check("5: Throws IllegalStateException if today would be above 5000");
        new Rows().add("today() = 0", "today() = 0", "pass(2) = 2", "today() = 2", "pass(98) = 100", "today() = 100")
            .check("6: Returns today.");
    }

    private static void promise7And8() {
        new Rows().putEach(1, 0, 3, 0).putEach(2, 19, 19, 0).add("far(0) = 0", "far(1) = 4", "far(2) = 1",
            "put(1, 0, 1, 1) = 0", "far(1) = 4", "remove(1, 3) = true", "far(1) = 3", "told(1) = 1", "far(1) = 3",
            "open(1, true) = 0", "read(1) = 3", "far(1) = 3", "setCatalogue(1, 1, NEVER) = 1",
            "remove(1, 2) = false", "far(1) = 2").check("7: Returns how many records of a catalogue are there.");
        new Rows().refuse("far(#)", 0, 3).add("far(0) = 0", "far(3) = 0")
            .check("7: Throws IllegalArgumentException if catalogue is out of range");
        new Rows().putEach(1, 0, 3, 0).putEach(2, 19, 19, 0).add("told(1) = 0").removeEach(1, 0, 2, true)
            .removeEach(2, 19, 19, true).add("told(0) = 0", "told(1) = 3", "told(2) = 1", "open(1, true) = 0",
                "read(1) = 3", "told(1) = 3", "put(1, 0, 0, 0) = 0", "told(1) = 2", "setCatalogue(1, 1, WHILE) = 1",
                "told(1) = 2", "pass(10) = 10", "told(1) = 0", "told(2) = 1")
            .check("8: Returns how many told deletes a catalogue has.");
        new Rows().refuse("told(#)", 0, 3).add("told(0) = 0", "told(3) = 0")
            .check("8: Throws IllegalArgumentException if catalogue is out of range");
    }

    private static void promise9() {
        new Rows().add("isOpen(1) = false", "open(1, false) = 0", "isOpen(1) = true", "isOpen(0) = false",
            "open(0, true) = 0", "isOpen(0) = true", "read(1) = 0", "read(0) = 0").check("9: Opens a list.");
        new Rows().add("setCatalogue(0, 1, NEVER) = 1").putEach(0, 0, 0, 0).add("open(0, false) = 0", "read(0) = 1",
            "remove(0, 0) = false", "open(0, false) = 0", "read(0) = 0", "held(0) = 1", "open(0, true) = 0",
            "read(0) = 0", "held(0) = 0").check("9: isFull: whether it is a full one");
        new Rows().to(6).add("open(0, false) = 0", "read(0) = 0", "open(0, false) = 6", "open(0, true) = 0",
            "open(0, false) = 6", "open(1, false) = 0").check("9: Returns the stamp from which it begins.");
        new Rows().refuse("open(#, false)", 0, 3).refuse("open(#, true)", 0, 3)
            .each(0, 3, c -> "isOpen(" + c + ") = false").add("open(0, true) = 0", "open(3, false) = 0")
            .check("9: Throws IllegalArgumentException if catalogue is out of range");
    }

    private static void promise10() {
        new Rows().putEach(2, 0, 4, 0).putEach(1, 0, 0, 0).add("open(2, false) = 0", "open(1, false) = 0",
            "held(2) = 0", "read(2) = 3", "held(2) = 3", "held(1) = 0", "read(2) = 2", "held(2) = 5", "wrong(2) = 0")
            .check("10: Reads a page.");
        for (int listed = 0; listed <= 20; listed++) {
            int told = listed / 2;
            new Rows().putEach(2, 0, listed - 1, 0).removeEach(2, 0, told - 1, true).add("open(2, false) = 0")
                .readAll(2, listed).add("held(2) = " + (listed - told))
                .check("10: Returns how many records and told deletes it has, of " + listed);
        }
        new Rows().putEach(0, 0, 0, 0).add("open(0, false) = 0").refuse("read(#)", 0, 3).add("read(0) = 1")
            .check("10: Throws IllegalArgumentException if catalogue is out of range");
        new Rows().each(0, 3, c -> "read(" + c + ") = throws.IllegalStateException").add("open(2, true) = 0",
            "read(1) = throws.IllegalStateException", "read(3) = throws.IllegalStateException", "read(2) = 0",
            "read(2) = throws.IllegalStateException", "open(2, false) = 0", "read(2) = 0",
            "read(2) = throws.IllegalStateException").check("10: Throws IllegalStateException if no list is open");
    }

    private static void promise11() {
        new Rows().putEach(3, 0, 3, 0).each(0, 3, c -> "isOpen(" + c + ") = false").add("open(3, true) = 0")
            .each(0, 3, c -> "isOpen(" + c + ") = " + (c == 3)).add("read(3) = 3", "isOpen(3) = true", "pass(6) = 6",
                "isOpen(3) = true", "read(3) = 3", "isOpen(3) = true", "read(3) = 1", "isOpen(3) = false")
            .check("11: Tells whether a list is open.");
        new Rows().refuse("isOpen(#)", 0, 3).add("isOpen(0) = false", "isOpen(3) = false")
            .check("11: Throws IllegalArgumentException if catalogue is out of range");
    }

    private static void promise12() {
        new Rows().each(0, 3, c -> "mark(" + c + ") = 0").to(8).add("setCatalogue(1, 5, FOREVER) = 1")
            .each(0, 2, c -> "open(" + c + ", false) = 0").add("mark(0) = 0").each(0, 2, c -> "read(" + c + ") = 0")
            .add("mark(0) = 8", "mark(1) = 5", "mark(2) = 8", "mark(3) = 0", "open(0, true) = 0", "mark(0) = 8",
                "setCatalogue(0, 5, FOREVER) = 1", "mark(0) = 8", "pass(4) = 12", "mark(0) = 8", "mark(1) = 5")
            .check("12: Returns the mark of a catalogue.");
        new Rows().refuse("mark(#)", 0, 3).add("mark(0) = 0", "mark(3) = 0")
            .check("12: Throws IllegalArgumentException if catalogue is out of range");
    }

    private static void promise13() {
        new Rows().add("put(3, 2, 1, 0) = 0", "put(3, 3, 1, 999) = 0", "stored(3, 3) = NONE", "open(3, false) = 0",
            "read(3) = 2", "stored(3, 2) = 0", "stored(3, 3) = 999", "put(3, 3, 1, 998) = 0", "stored(3, 3) = 999")
            .check("13: Returns the value of a record in the store");
        new Rows().add("put(1, 2, 1, 5) = 0", "open(1, false) = 0", "read(1) = 1", "stored(1, 3) = NONE",
            "stored(2, 2) = NONE", "stored(0, 2) = NONE", "remove(1, 2) = true", "stored(1, 2) = 5",
            "open(1, false) = 0", "read(1) = 1", "stored(1, 2) = NONE").check("13: NONE if it does not hold it.");
        new Rows().refuse("stored(#, 19)", 0, 3).refuse("stored(3, #)", 0, 19).add("stored(3, 19) = NONE")
            .check("13: Throws IllegalArgumentException if an argument is out of range");
    }

    private static void promise14() {
        new Rows().putEach(1, 8, 11, 0).putEach(2, 0, 0, 0).add("held(1) = 0", "open(1, false) = 0", "read(1) = 3",
            "held(1) = 3", "read(1) = 1", "held(1) = 4", "held(2) = 0", "held(0) = 0", "remove(1, 8) = true",
            "held(1) = 4", "open(1, false) = 0").readAll(1, 4).add("held(1) = 3")
            .check("14: Returns how many records of a catalogue the store holds.");
        new Rows().refuse("held(#)", 0, 3).add("held(0) = 0", "held(3) = 0")
            .check("14: Throws IllegalArgumentException if catalogue is out of range");
    }

    private static void promise15() {
        new Rows().add("wrong(1) = 0", "put(1, 0, 1, 5) = 0", "wrong(1) = 1", "put(1, 1, 1, 5) = 0",
            "put(1, 2, 1, 5) = 0", "wrong(1) = 3", "wrong(0) = 0", "open(1, false) = 0", "read(1) = 3", "wrong(1) = 0",
            "put(1, 0, 2, 5) = 0", "wrong(1) = 1", "put(1, 1, 1, 6) = 0", "wrong(1) = 2", "pass(1) = 1", "wrong(1) = 2",
            "put(1, 2, 1, 5) = 1", "wrong(1) = 3", "put(1, 2, 3, 7) = 1", "wrong(1) = 3")
            .check("15: Returns how many records of a catalogue are not in the store with the work, the value and the "
                + "stamp that they have there");
        new Rows().putEach(1, 0, 2, 0).add("open(1, false) = 0", "read(1) = 3").removeEach(1, 0, 1, true)
            .add("wrong(1) = 2", "put(1, 3, 0, 3) = 0", "wrong(1) = 3", "put(1, 0, 0, 0) = 0", "wrong(1) = 2",
                "remove(1, 3) = true", "wrong(1) = 1", "open(1, false) = 0").readAll(1, 4).add("wrong(1) = 0")
            .check("15: or are in the store and not there.");
        new Rows().refuse("wrong(#)", 0, 3).add("wrong(0) = 0", "wrong(3) = 0")
            .check("15: Throws IllegalArgumentException if catalogue is out of range");
    }

    private static void promise16() {
        new Rows().each(0, 3, c -> "put(" + c + ", 1, 8, 0) = 0").each(0, 3, c -> "put(" + c + ", 2, 9, 0) = 0")
            .add("put(3, 3, 8, 0) = 0", "copies(8) = 0").each(0, 3, c -> "open(" + c + ", false) = 0")
            .each(0, 3, c -> "read(" + c + ") = " + (c == 3 ? 3 : 2)).add("copies(8) = 5", "copies(9) = 4",
                "copies(7) = 0", "put(0, 1, 9, 0) = 0", "copies(8) = 5", "open(0, true) = 0", "read(0) = 2",
                "copies(8) = 4", "copies(9) = 5").check("16: Returns the number of records that make a work.");
        new Rows().refuse("copies(#)", 0, 9).add("copies(0) = 0", "copies(9) = 0")
            .check("16: Throws IllegalArgumentException if work is out of range");
    }

    private static void promise17() {
        new Rows().add("put(3, 17, 4, 0) = 0", "open(3, false) = 0", "read(3) = 1", "best(4) = 317",
            "put(2, 0, 4, 0) = 0", "open(2, false) = 0", "read(2) = 1", "best(4) = 200", "put(0, 12, 4, 0) = 0",
            "open(0, false) = 0", "read(0) = 1", "best(4) = 12", "pass(1) = 1", "put(1, 9, 4, 0) = 1",
            "open(1, false) = 0", "read(1) = 1", "best(4) = 109")
            .check("17: Returns the best record of a work: 100 times the catalogue plus the record");
        new Rows().add("put(0, 0, 4, 0) = 0", "best(4) = NONE", "open(0, false) = 0", "read(0) = 1", "best(4) = 0",
            "best(3) = NONE", "best(5) = NONE", "remove(0, 0) = true", "open(0, false) = 0", "read(0) = 1",
            "best(4) = NONE").check("17: NONE if there is none.");
        new Rows().refuse("best(#)", 0, 9).add("best(0) = NONE", "best(9) = NONE")
            .check("17: Throws IllegalArgumentException if work is out of range");
    }
}
