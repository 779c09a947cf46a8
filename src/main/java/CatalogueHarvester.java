/**
 * A harvester of catalogues: far catalogues whose records change and go, and a store that is kept
 * up with them by lists that are read in pages.
 */
public final class CatalogueHarvester {
    /** There is none. */
    public static final int NONE = -1;
    /** Ways with deletes. */
    public static final int FOREVER = 0, WHILE = 1, NEVER = 2;

    private static final int CATALOGUES = 4;
    private static final int RECORDS = 20;
    private static final int WORKS = 10;
    private static final int GREATEST_VALUE = 1000;
    private static final int GREATEST_UNIT = 30;
    private static final int MOST_DAYS_AT_ONCE = 100;
    private static final int LAST_DAY = 5000;
    private static final int DAYS_OF_A_TOLD_DELETE = 10;
    private static final int DAYS_OF_A_TOKEN = 5;
    private static final int PAGE_SIZE = 3;
    private static final int CATALOGUE_FACTOR = 100;

    private final Harvest[] harvests;
    private int today;

    public CatalogueHarvester() {
        harvests = new Harvest[CATALOGUES];
        for (int catalogue = 0; catalogue < CATALOGUES; catalogue++) {
            harvests[catalogue] = new Harvest();
        }
        today = 0;
    }

    // ---- far catalogues

    public int setCatalogue(int catalogue, int unit, int deletes) throws IllegalArgumentException {
        Harvest harvest = harvestOf(catalogue);
        refuseOutside(unit, 1, GREATEST_UNIT);
        refuseOutside(deletes, FOREVER, NEVER);
        int unitBefore = harvest.far.unit;
        harvest.far.unit = unit;
        harvest.far.deletes = deletes;
        harvest.far.forgetToldDeletes(today);
        return unitBefore;
    }

    public int put(int catalogue, int record, int work, int value) throws IllegalArgumentException {
        Harvest harvest = harvestOf(catalogue);
        refuseRecord(record);
        refuseOutside(work, 0, WORKS - 1);
        refuseOutside(value, 0, GREATEST_VALUE);
        return harvest.far.change(record, work, value, today);
    }

    public boolean remove(int catalogue, int record) throws IllegalArgumentException, IllegalStateException {
        Harvest harvest = harvestOf(catalogue);
        refuseRecord(record);
        if (!harvest.far.records.isThere[record]) {
            throw new IllegalStateException("the record is not there");
        }
        return harvest.far.delete(record, today);
    }

    public int pass(int days) throws IllegalArgumentException, IllegalStateException {
        refuseOutside(days, 1, MOST_DAYS_AT_ONCE);
        if (today + days > LAST_DAY) {
            throw new IllegalStateException("today would be above 5000");
        }
        today += days;
        for (int catalogue = 0; catalogue < CATALOGUES; catalogue++) {
            harvestOf(catalogue).far.forgetToldDeletes(today);
        }
        return today;
    }

    public int today() {
        return today;
    }

    public int far(int catalogue) throws IllegalArgumentException {
        return harvestOf(catalogue).far.records.count();
    }

    public int told(int catalogue) throws IllegalArgumentException {
        return harvestOf(catalogue).far.countTold();
    }

    // ---- harvester

    public int open(int catalogue, boolean isFull) throws IllegalArgumentException {
        Harvest harvest = harvestOf(catalogue);
        harvest.begin(isFull, today);
        return harvest.firstStamp();
    }

    public int read(int catalogue) throws IllegalArgumentException, IllegalStateException {
        Harvest harvest = harvestOf(catalogue);
        if (!harvest.hasOpenList) {
            throw new IllegalStateException("no list is open");
        }
        return harvest.takePage(today);
    }

    public boolean isOpen(int catalogue) throws IllegalArgumentException {
        return harvestOf(catalogue).hasOpenList;
    }

    public int mark(int catalogue) throws IllegalArgumentException {
        return harvestOf(catalogue).mark;
    }

    // ---- store and works

    public int stored(int catalogue, int record) throws IllegalArgumentException {
        Harvest harvest = harvestOf(catalogue);
        refuseRecord(record);
        return harvest.store.isThere[record] ? harvest.store.values[record] : NONE;
    }

    public int held(int catalogue) throws IllegalArgumentException {
        return harvestOf(catalogue).store.count();
    }

    public int wrong(int catalogue) throws IllegalArgumentException {
        Harvest harvest = harvestOf(catalogue);
        return harvest.store.countUnlike(harvest.far.records);
    }

    public int copies(int work) throws IllegalArgumentException {
        refuseOutside(work, 0, WORKS - 1);
        int copies = 0;
        for (int catalogue = 0; catalogue < CATALOGUES; catalogue++) {
            copies += harvestOf(catalogue).store.countOfWork(work);
        }
        return copies;
    }

    public int best(int work) throws IllegalArgumentException {
        refuseOutside(work, 0, WORKS - 1);
        int best = NONE;
        int bestStamp = NONE;
        for (int catalogue = 0; catalogue < CATALOGUES; catalogue++) {
            Records store = harvestOf(catalogue).store;
            int record = store.latestOfWork(work);
            // Only a greater stamp wins, so that of several the lowest catalogue stays.
            if (record != NONE && store.stamps[record] > bestStamp) {
                best = CATALOGUE_FACTOR * catalogue + record;
                bestStamp = store.stamps[record];
            }
        }
        return best;
    }

    private Harvest harvestOf(int catalogue) {
        Harvest harvest = catalogue >= 0 && catalogue < CATALOGUES ? harvests[catalogue] : null;
        if (harvest == null) {
            throw new IllegalArgumentException("there are the catalogues 0 to 3");
        }
        return harvest;
    }

    private static void refuseRecord(int record) {
        refuseOutside(record, 0, RECORDS - 1);
    }

    private static void refuseOutside(int argument, int least, int greatest) {
        if (argument < least || argument > greatest) {
            throw new IllegalArgumentException("an argument is out of range");
        }
    }

    /** The records of one catalogue, in the catalogue itself or in the store, by their numbers. */
    private static final class Records {
        final boolean[] isThere = new boolean[RECORDS];
        final int[] works = new int[RECORDS];
        final int[] values = new int[RECORDS];
        final int[] stamps = new int[RECORDS];

        void keep(int record, int work, int value, int stamp) {
            isThere[record] = true;
            works[record] = work;
            values[record] = value;
            stamps[record] = stamp;
        }

        void drop(int record) {
            isThere[record] = false;
        }

        int count() {
            int count = 0;
            for (int record = 0; record < RECORDS; record++) {
                if (isThere[record]) {
                    count++;
                }
            }
            return count;
        }

        int countOfWork(int work) {
            int count = 0;
            for (int record = 0; record < RECORDS; record++) {
                if (isThere[record] && works[record] == work) {
                    count++;
                }
            }
            return count;
        }

        int countUnlike(Records others) {
            int count = 0;
            for (int record = 0; record < RECORDS; record++) {
                if (!isLike(others, record)) {
                    count++;
                }
            }
            return count;
        }

        private boolean isLike(Records others, int record) {
            if (!isThere[record] || !others.isThere[record]) {
                return isThere[record] == others.isThere[record];
            }
            return works[record] == others.works[record]
                && values[record] == others.values[record]
                && stamps[record] == others.stamps[record];
        }

        /** The record of a work with the greatest stamp, of several the lowest; NONE without one. */
        int latestOfWork(int work) {
            int latest = NONE;
            int latestStamp = NONE;
            for (int record = 0; record < RECORDS; record++) {
                if (isThere[record] && works[record] == work && stamps[record] > latestStamp) {
                    latest = record;
                    latestStamp = stamps[record];
                }
            }
            return latest;
        }
    }

    /** A far catalogue: its clock, its way with deletes, its records and its told deletes. */
    private static final class FarCatalogue {
        final Records records = new Records();
        final boolean[] isTold = new boolean[RECORDS];
        final int[] toldStamps = new int[RECORDS];
        // The days of a told delete run from the removal itself, not from its coarser stamp.
        final int[] removalDays = new int[RECORDS];
        int unit = 1;
        int deletes = FOREVER;

        int stampOfDay(int day) {
            return unit > 1 ? day - day % unit : day;
        }

        int change(int record, int work, int value, int today) {
            int stamp = stampOfDay(today);
            records.keep(record, work, value, stamp);
            isTold[record] = false;
            return stamp;
        }

        boolean delete(int record, int today) {
            records.drop(record);
            isTold[record] = deletes != NEVER;
            toldStamps[record] = stampOfDay(today);
            removalDays[record] = today;
            return isTold[record];
        }

        void forgetToldDeletes(int today) {
            for (int record = 0; record < RECORDS; record++) {
                boolean hasAged = today - removalDays[record] >= DAYS_OF_A_TOLD_DELETE;
                if (deletes == NEVER || deletes == WHILE && hasAged) {
                    isTold[record] = false;
                }
            }
        }

        int countTold() {
            int count = 0;
            for (int record = 0; record < RECORDS; record++) {
                if (isTold[record]) {
                    count++;
                }
            }
            return count;
        }

        /** The stamp with which a record or its told delete stands in lists; NONE if neither is there. */
        int listedStamp(int record) {
            if (records.isThere[record]) {
                return records.stamps[record];
            }
            return isTold[record] ? toldStamps[record] : NONE;
        }

        /** The first record or told delete of the list from a stamp on behind a place; NONE without one. */
        int nextListed(int firstStamp, int placeStamp, int placeRecord) {
            int next = NONE;
            int nextStamp = NONE;
            for (int record = 0; record < RECORDS; record++) {
                int stamp = listedStamp(record);
                boolean isBehind = stamp > placeStamp || stamp == placeStamp && record > placeRecord;
                boolean isSooner = next == NONE || stamp < nextStamp;
                if (stamp != NONE && stamp >= firstStamp && isBehind && isSooner) {
                    next = record;
                    nextStamp = stamp;
                }
            }
            return next;
        }
    }

    /** One catalogue with what the harvester has of it: the store, the mark and the open list. */
    private static final class Harvest {
        final FarCatalogue far = new FarCatalogue();
        final Records store = new Records();
        int mark = 0;
        boolean hasOpenList = false;
        private boolean isFullList = false;
        private int openingDay = 0;
        // The day from which the token ages: of the last page, or of the opening without one.
        private int tokenDay = 0;
        private int placeStamp = NONE;
        private int placeRecord = NONE;
        private final boolean[] isTakenOver = new boolean[RECORDS];

        void begin(boolean isFull, int today) {
            hasOpenList = true;
            isFullList = isFull;
            openingDay = today;
            tokenDay = today;
            placeStamp = NONE;
            placeRecord = NONE;
            for (int record = 0; record < RECORDS; record++) {
                isTakenOver[record] = false;
            }
        }

        int firstStamp() {
            return isFullList ? 0 : mark;
        }

        int takePage(int today) {
            if (today - tokenDay > DAYS_OF_A_TOKEN) {
                begin(isFullList, today);
            }
            tokenDay = today;
            int count = 0;
            int next = nextOfList();
            while (next != NONE && count < PAGE_SIZE) {
                takeOver(next);
                count++;
                next = nextOfList();
            }
            if (next == NONE) {
                finish();
            }
            return count;
        }

        private int nextOfList() {
            return far.nextListed(firstStamp(), placeStamp, placeRecord);
        }

        private void takeOver(int record) {
            placeStamp = far.listedStamp(record);
            placeRecord = record;
            Records records = far.records;
            if (records.isThere[record]) {
                store.keep(record, records.works[record], records.values[record], records.stamps[record]);
                isTakenOver[record] = true;
            } else {
                store.drop(record);
            }
        }

        private void finish() {
            hasOpenList = false;
            mark = far.stampOfDay(openingDay);
            if (isFullList) {
                dropWhatIsGone();
            }
        }

        private void dropWhatIsGone() {
            for (int record = 0; record < RECORDS; record++) {
                if (!isTakenOver[record]) {
                    store.drop(record);
                }
            }
        }
    }
}
