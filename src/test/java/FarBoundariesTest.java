/** The terms, "Far catalogues" and promises 1 to 8: a test for each sentence that names a boundary case. */
final class FarBoundariesTest {
    public static void main(String[] args) {
        aNewObject();
        the512thCall();
        unitsFromTheLeastToTheGreatest();
        stampsWhereTheUnitWrapsAround();
        stampsOnTheLastDay();
        waysWithDeletesFromTheLeastToTheGreatest();
        putFromTheLeastToTheGreatest();
        anEmptyAndAFullCatalogue();
        noAndAllToldDeletes();
        byForeverUntilItIsPutAgain();
        byWhileUntilItIsPutAgain();
        byWhileOnTheTenthDay();
        byWhileOnTheTenthDayAtOnce();
        byWhileEachFromItsOwnDay();
        byWhileOnTheLastDay();
        byWhileFromTheDayAndNotFromTheStamp();
        byNeverThereIsNone();
        toNeverToldDeletesGo();
        toWhileThoseGoWhoseDaysHavePassed();
        toForeverToldDeletesStay();
        setCatalogueKeepsStamps();
        passFromTheLeastToTheGreatest();
        passToTheLastDayAtOnce();
        passAboveTheLastDay();
        Check.end();
    }

    private static void aNewObject() {
        new Rows().add("today() = 0")
            .each(0, 3, c -> "far(" + c + ") = 0").each(0, 3, c -> "told(" + c + ") = 0")
            .each(0, 3, c -> "isOpen(" + c + ") = false").each(0, 3, c -> "mark(" + c + ") = 0")
            .each(0, 3, c -> "held(" + c + ") = 0").each(0, 3, c -> "wrong(" + c + ") = 0")
            .each(0, 9, w -> "copies(" + w + ") = 0").each(0, 9, w -> "best(" + w + ") = NONE")
            .each(0, 79, k -> "stored(" + k / 20 + ", " + k % 20 + ") = NONE")
            .each(0, 79, k -> "remove(" + k / 20 + ", " + k % 20 + ") = throws.IllegalStateException")
            .each(0, 3, c -> "read(" + c + ") = throws.IllegalStateException")
            .check("empty catalogues, an empty store; today is 0");
        new Rows().each(0, 3, c -> "put(" + c + ", 0, 0, 0) = 0").each(0, 3, c -> "remove(" + c + ", 0) = true")
            .to(100).each(0, 3, c -> "told(" + c + ") = 1").check("the way with deletes is FOREVER at first");
        new Rows().to(29).each(0, 3, c -> "put(" + c + ", 0, 0, 0) = 29")
            .each(0, 3, c -> "setCatalogue(" + c + ", 1, FOREVER) = 1").check("the unit is 1 at first");
    }

    private static void the512thCall() {
        CatalogueHarvester x = new CatalogueHarvester();
        for (int call = 1; call <= 510; call++) {
            Check.same("call " + call + ": put", x.put(call % 4, call % 20, call % 10, call), 0);
        }
        Check.same("call 511: open", x.open(3, true), 0);
        Check.same("call 512: read", x.read(3), 3);
    }

    private static void unitsFromTheLeastToTheGreatest() {
        for (int unit = 1; unit <= 30; unit++) {
            new Rows().add("setCatalogue(3, " + unit + ", FOREVER) = 1", "setCatalogue(3, 30, FOREVER) = " + unit,
                "setCatalogue(3, 1, FOREVER) = 30", "setCatalogue(3, 1, FOREVER) = 1",
                "setCatalogue(3, 0, FOREVER) = throws.IllegalArgumentException",
                "setCatalogue(3, 31, FOREVER) = throws.IllegalArgumentException",
                "setCatalogue(3, 2, FOREVER) = 1").check("unit: 1 to 30, with " + unit);
        }
    }

    private static void stampsWhereTheUnitWrapsAround() {
        for (int unit = 1; unit <= 30; unit++) {
            Rows rows = new Rows().add("setCatalogue(1, " + unit + ", FOREVER) = 1");
            for (int turn = 0; turn < 3; turn++) {
                int stamp = turn * unit;
                rows.to(stamp).add("put(1, 0, 0, 0) = " + stamp);
                rows.to(stamp + unit - 1).add("put(1, 0, 0, 0) = " + stamp);
            }
            rows.check("a stamp is today, less today modulo the unit " + unit);
        }
        new Rows().add("put(0, 0, 0, 1) = 0", "put(0, 1, 0, 1) = 0", "setCatalogue(0, 5, FOREVER) = 1",
            "open(0, false) = 0", "read(0) = 2").to(5).add("open(0, false) = 0", "read(0) = 2", "mark(0) = 5")
            .to(9).add("remove(0, 0) = true", "open(0, false) = 5", "read(0) = 1", "mark(0) = 5")
            .to(10).add("open(0, false) = 5", "read(0) = 1", "mark(0) = 10", "open(0, false) = 10", "read(0) = 0",
                "remove(0, 1) = true", "open(0, false) = 10", "read(0) = 1")
            .check("a told delete has the stamp of the removal");
    }

    private static void stampsOnTheLastDay() {
        new Rows().add("setCatalogue(1, 30, FOREVER) = 1", "setCatalogue(2, 7, WHILE) = 1",
            "setCatalogue(3, 25, NEVER) = 1").to(5000)
            .add("put(0, 0, 0, 0) = 5000", "put(1, 0, 0, 0) = 4980", "put(2, 0, 0, 0) = 4998",
                "put(3, 0, 0, 0) = 5000").check("stamps on day 5000");
    }

    private static void waysWithDeletesFromTheLeastToTheGreatest() {
        new Rows().add("setCatalogue(0, 1, 0) = 1", "setCatalogue(1, 1, 1) = 1", "setCatalogue(2, 1, 2) = 1",
            "setCatalogue(0, 1, -1) = throws.IllegalArgumentException",
            "setCatalogue(0, 1, 3) = throws.IllegalArgumentException")
            .each(0, 2, c -> "put(" + c + ", 0, 0, 0) = 0")
            .add("remove(0, 0) = true", "remove(1, 0) = true", "remove(2, 0) = false").to(10)
            .add("told(0) = 1", "told(1) = 0", "told(2) = 0").check("deletes: FOREVER, WHILE or NEVER");
    }

    private static void putFromTheLeastToTheGreatest() {
        new Rows().add("put(0, 0, 0, 0) = 0", "put(3, 19, 9, 1000) = 0",
            "put(-1, 0, 0, 0) = throws.IllegalArgumentException",
            "put(4, 19, 9, 1000) = throws.IllegalArgumentException",
            "put(0, -1, 0, 0) = throws.IllegalArgumentException",
            "put(3, 20, 9, 1000) = throws.IllegalArgumentException",
            "put(0, 0, -1, 0) = throws.IllegalArgumentException",
            "put(3, 19, 10, 1000) = throws.IllegalArgumentException",
            "put(0, 0, 0, -1) = throws.IllegalArgumentException",
            "put(3, 19, 9, 1001) = throws.IllegalArgumentException", "far(0) = 1", "far(3) = 1",
            "open(0, true) = 0", "read(0) = 1", "open(3, true) = 0", "read(3) = 1", "stored(0, 0) = 0",
            "stored(3, 19) = 1000", "best(0) = 0", "best(9) = 319", "copies(0) = 1", "copies(9) = 1")
            .check("catalogue: 0 to 3, record: 0 to 19, work: 0 to 9, value: 0 to 1000");
    }

    private static void anEmptyAndAFullCatalogue() {
        new Rows().add("far(3) = 0").each(0, 18, r -> "put(3, " + r + ", 0, 0) = 0").add("far(3) = 19",
            "put(3, 19, 0, 0) = 0", "far(3) = 20", "put(3, 20, 0, 0) = throws.IllegalArgumentException", "far(3) = 20",
            "put(3, 19, 1, 1) = 0", "far(3) = 20", "far(2) = 0", "remove(3, 0) = true", "far(3) = 19")
            .removeEach(3, 1, 18, true).add("far(3) = 1", "remove(3, 19) = true", "far(3) = 0",
                "remove(3, 19) = throws.IllegalStateException", "far(3) = 0").check("how many records are there");
    }

    private static void noAndAllToldDeletes() {
        new Rows().putEach(2, 0, 19, 0).add("told(2) = 0").removeEach(2, 0, 18, true).add("told(2) = 19",
            "remove(2, 19) = true", "told(2) = 20", "remove(2, 19) = throws.IllegalStateException", "told(2) = 20",
            "told(3) = 0", "put(2, 0, 0, 0) = 0", "told(2) = 19").putEach(2, 1, 19, 0).add("told(2) = 0", "far(2) = 20")
            .check("how many told deletes a catalogue has");
    }

    private static void byForeverUntilItIsPutAgain() {
        new Rows().add("put(0, 0, 0, 0) = 0", "remove(0, 0) = true").to(5000).add("told(0) = 1",
            "put(0, 0, 0, 0) = 5000", "told(0) = 0", "remove(0, 0) = true", "told(0) = 1")
            .check("by FOREVER it stays until the record is put again");
    }

    private static void byWhileUntilItIsPutAgain() {
        new Rows().add("setCatalogue(0, 1, WHILE) = 1", "put(0, 0, 0, 0) = 0", "remove(0, 0) = true").to(9)
            .add("told(0) = 1", "put(0, 0, 0, 0) = 9", "told(0) = 0", "far(0) = 1").to(10)
            .add("far(0) = 1", "told(0) = 0", "remove(0, 0) = true", "told(0) = 1").to(19).add("told(0) = 1").to(20)
            .add("told(0) = 0").check("by WHILE until the record is put again");
    }

    private static void byWhileOnTheTenthDay() {
        new Rows().add("setCatalogue(0, 1, WHILE) = 1", "put(0, 0, 0, 0) = 0", "remove(0, 0) = true")
            .add("told(0) = 1").to(1).add("told(0) = 1").to(9).add("told(0) = 1").to(10).add("told(0) = 0")
            .to(11).add("told(0) = 0").check("on the 10th day behind the removal it is gone");
        new Rows().add("setCatalogue(0, 1, WHILE) = 1", "put(0, 0, 0, 0) = 0", "remove(0, 0) = true").to(9)
            .add("open(0, true) = 0", "read(0) = 1", "open(0, true) = 0").to(10).add("read(0) = 0", "isOpen(0) = false")
            .check("a page on the 9th day has it, a page on the 10th has not");
    }

    private static void byWhileOnTheTenthDayAtOnce() {
        for (int days = 8; days <= 100; days++) {
            new Rows().add("setCatalogue(3, 1, WHILE) = 1", "put(3, 19, 0, 0) = 0", "remove(3, 19) = true").to(days)
                .add("told(3) = " + (days < 10 ? 1 : 0)).check(days + " days behind the removal, at once");
        }
    }

    private static void byWhileEachFromItsOwnDay() {
        Rows rows = new Rows().add("setCatalogue(0, 1, WHILE) = 1").putEach(0, 0, 19, 0);
        for (int day = 0; day < 20; day++) {
            rows.to(day).add("remove(0, " + day + ") = true", "told(0) = " + Math.min(10, day + 1));
        }
        for (int day = 20; day < 30; day++) {
            rows.to(day).add("told(0) = " + (29 - day));
        }
        rows.check("a told delete a day, each for its own 10 days");
    }

    private static void byWhileOnTheLastDay() {
        new Rows().add("setCatalogue(0, 1, WHILE) = 1").putEach(0, 0, 1, 0).to(4990).add("remove(0, 0) = true")
            .to(4991).add("remove(0, 1) = true").to(4999).add("told(0) = 2").to(5000)
            .add("told(0) = 1", "pass(1) = throws.IllegalStateException", "told(0) = 1")
            .check("removed 10 and 9 days ahead of day 5000");
    }

    private static void byWhileFromTheDayAndNotFromTheStamp() {
        new Rows().add("setCatalogue(0, 30, WHILE) = 1", "put(0, 0, 0, 0) = 0").to(29).add("remove(0, 0) = true")
            .to(30).add("told(0) = 1").to(38).add("told(0) = 1", "setCatalogue(0, 30, WHILE) = 30", "told(0) = 1")
            .to(39).add("told(0) = 0").check("10 days since the day of the removal, with a unit of 30");
    }

    private static void byNeverThereIsNone() {
        new Rows().add("setCatalogue(0, 1, NEVER) = 1").putEach(0, 0, 19, 0).removeEach(0, 0, 19, false)
            .add("told(0) = 0", "far(0) = 0", "open(0, true) = 0", "read(0) = 0", "isOpen(0) = false")
            .check("by NEVER there is none");
    }

    private static void toNeverToldDeletesGo() {
        new Rows().putEach(0, 0, 19, 0).putEach(1, 0, 0, 0).removeEach(0, 0, 19, true).removeEach(1, 0, 0, true)
            .add("told(0) = 20", "setCatalogue(0, 1, NEVER) = 1", "told(0) = 0", "told(1) = 1",
                "setCatalogue(0, 1, FOREVER) = 1", "told(0) = 0", "open(0, true) = 0", "read(0) = 0")
            .check("by NEVER told deletes go, in that catalogue alone");
    }

    private static void toWhileThoseGoWhoseDaysHavePassed() {
        new Rows().putEach(0, 0, 1, 0).putEach(1, 0, 0, 0).add("remove(0, 0) = true", "remove(1, 0) = true").to(1)
            .add("remove(0, 1) = true").to(10).add("told(0) = 2", "setCatalogue(0, 1, WHILE) = 1", "told(0) = 1",
                "told(1) = 1", "open(0, false) = 0", "read(0) = 1", "isOpen(0) = false").to(11).add("told(0) = 0")
            .check("by WHILE those of 10 days go, those of 9 stay");
        new Rows().putEach(0, 0, 0, 0).add("remove(0, 0) = true").to(9).add("setCatalogue(0, 1, WHILE) = 1",
            "told(0) = 1", "setCatalogue(0, 1, WHILE) = 1", "told(0) = 1").to(10).add("told(0) = 0")
            .check("by WHILE on the 9th day");
        new Rows().putEach(0, 0, 0, 0).add("remove(0, 0) = true").to(5000).add("told(0) = 1",
            "setCatalogue(0, 1, WHILE) = 1", "told(0) = 0").check("by WHILE on day 5000");
    }

    private static void toForeverToldDeletesStay() {
        new Rows().add("setCatalogue(0, 1, WHILE) = 1").putEach(0, 0, 0, 0).add("remove(0, 0) = true").to(9)
            .add("setCatalogue(0, 1, FOREVER) = 1", "told(0) = 1").to(10).add("told(0) = 1").to(110).add("told(0) = 1")
            .check("by FOREVER on the 9th day it stays");
        new Rows().add("setCatalogue(0, 1, WHILE) = 1").putEach(0, 0, 0, 0).add("remove(0, 0) = true").to(10)
            .add("setCatalogue(0, 1, FOREVER) = 1", "told(0) = 0").check("by FOREVER on the 10th day it is gone");
    }

    private static void setCatalogueKeepsStamps() {
        new Rows().to(29).putEach(0, 0, 1, 29).add("remove(0, 1) = true", "open(0, false) = 0", "read(0) = 2",
            "wrong(0) = 0", "setCatalogue(0, 30, FOREVER) = 1", "wrong(0) = 0", "told(0) = 1", "open(0, true) = 0",
            "read(0) = 2", "mark(0) = 0", "setCatalogue(0, 1, FOREVER) = 30", "open(0, false) = 0", "read(0) = 2",
            "mark(0) = 29", "open(0, false) = 29", "read(0) = 2", "wrong(0) = 0")
            .check("stamps and told deletes that are there stay");
    }

    private static void passFromTheLeastToTheGreatest() {
        new Rows().add("pass(0) = throws.IllegalArgumentException", "today() = 0", "pass(1) = 1", "today() = 1",
            "pass(100) = 101", "today() = 101", "pass(101) = throws.IllegalArgumentException", "today() = 101")
            .check("days: 1 to 100");
    }

    private static void passToTheLastDayAtOnce() {
        new Rows().to(4900).add("pass(100) = 5000", "today() = 5000").check("from 4900 to 5000 at once");
        new Rows().to(4901).add("pass(100) = throws.IllegalStateException", "today() = 4901", "pass(99) = 5000")
            .check("from 4901 to 5001 at once");
    }

    private static void passAboveTheLastDay() {
        new Rows().to(4999).add("pass(2) = throws.IllegalStateException", "today() = 4999", "pass(1) = 5000",
            "pass(1) = throws.IllegalStateException", "pass(100) = throws.IllegalStateException", "today() = 5000")
            .check("today would be above 5000");
        new Rows().to(5000).add("pass(101) = throws.IllegalArgumentException",
            "pass(0) = throws.IllegalArgumentException", "pass(MAX) = throws.IllegalArgumentException",
            "pass(MIN) = throws.IllegalArgumentException", "today() = 5000")
            .check("if both apply, IllegalArgumentException is thrown");
    }
}
