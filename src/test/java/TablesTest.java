/** Promises 8 to 11: tables and compactions. */
public final class TablesTest {
    private static final Due due = new Due("TablesTest");

    public static void main(String[] args) {
        put();
        putInPlaceOfItself();
        putOutOfRange();
        clear();
        cellOf();
        compactByNumbers();
        compactByNames();
        compactByUsers();
        compactWithTables();
        compactWrongAndEmpty();
        due.end();
    }

    private static void put() {
        NameRolls x = Due.rolls("a", "b");
        due.is("put(0, 0, 0)", x.put(0, 0, 0), 2);
        due.is("put(0, 1, 0)", x.put(0, 1, 0), 3);
        due.is("put(2, 5, 1)", x.put(2, 5, 1), 2);
        due.is("cells of 0", x.numberOf(0, 2), 2);
        due.is("put(0, 0, 1), in place of a", x.put(0, 0, 1), 3);
        due.is("users of 0", x.numberOf(0, 1), 2);
        x.release(0);
        due.is("users of 0", x.numberOf(0, 1), 1);
        due.is("put(0, 1, 1), the last user of a", x.put(0, 1, 1), 4);
        due.is("find a", x.find(1), Due.NOT_FOUND);
        due.is("year of 0", x.numberOf(0, 3), 1);
        due.is("numbers that lost their names", x.count(7), 1);
        due.is("put(0, 1, 0), stale", x.put(0, 1, 0), Due.STALE);
        due.is("cell (0, 1) as before", x.cellOf(0, 1), 1);
    }

    private static void putInPlaceOfItself() {
        NameRolls x = Due.rolls("a");
        x.put(1, 1, 0);
        due.is("put again", x.put(1, 1, 0), 2);
        due.is("release", x.release(0), 1);
        due.is("put, the cell its one user", x.put(1, 1, 0), 1);
        due.is("find a", x.find(1), 0);
        due.is("year of 0", x.numberOf(0, 3), 0);
        due.is("states", x.count(9), 4);
        due.is("no name was lost", x.count(7), 0);
    }

    private static void putOutOfRange() {
        NameRolls x = Due.rolls("a");
        int[][] wrong = {{-1, 0}, {3, 0}, {0, -1}, {0, 6}, {Integer.MIN_VALUE, 0},
            {0, Integer.MAX_VALUE}, {1, -6}, {-1, 6}};
        for (int[] place : wrong) {
            String at = "(" + place[0] + ", " + place[1] + ")";
            due.is("put" + at, x.put(place[0], place[1], 0), Due.INVALID);
            due.is("put stale" + at, x.put(place[0], place[1], -1), Due.INVALID);
            due.is("clear" + at, x.clear(place[0], place[1]), Due.INVALID);
            due.is("cellOf" + at, x.cellOf(place[0], place[1]), Due.INVALID);
        }
        due.is("put stale", x.put(0, 0, 40), Due.STALE);
        due.is("nothing was put", x.count(2), 0);
        due.is("states", x.count(9), 1);
    }

    private static void clear() {
        NameRolls x = Due.rolls("a", "b");
        x.put(0, 5, 1);
        x.put(1, 0, 1);
        due.is("clear(0, 0), empty", x.clear(0, 0), Due.NOT_POSSIBLE);
        due.is("clear(0, 5)", x.clear(0, 5), 2);
        due.is("clear(0, 5) again", x.clear(0, 5), Due.NOT_POSSIBLE);
        x.release(1);
        due.is("clear(1, 0), the last user", x.clear(1, 0), 0);
        due.is("find b", x.find(2), Due.NOT_FOUND);
        due.is("year of 1", x.numberOf(1, 3), 1);
        due.is("numbers that lost their names", x.count(7), 1);
        due.is("clear(2, 5)", x.clear(2, 5), Due.NOT_POSSIBLE);
    }

    private static void cellOf() {
        NameRolls x = Due.rolls("b", "a");
        int number = 0;
        for (int table = 0; table < 3; table++) {
            for (int cell = 0; cell < 6; cell++) {
                due.is("empty", x.cellOf(table, cell), Due.NOT_FOUND);
                x.put(table, cell, number);
                number = 1 - number;
            }
        }
        x.compact(1);
        for (int table = 0; table < 3; table++) {
            for (int cell = 0; cell < 6; cell++) {
                int want = Due.tag(1, 1, 1 - cell % 2);
                due.is("cellOf(" + table + ", " + cell + ")", x.cellOf(table, cell), want);
            }
        }
        due.is("cells of 0", x.numberOf(0, 2), 9);
    }

    private static void compactByNumbers() {
        NameRolls x = Due.rolls("d", "c", "b", "a");
        x.release(1);
        due.is("compact(0)", x.compact(0), 2);
        due.is("find d", x.find(4), 0);
        due.is("find b", x.find(2), 1);
        due.is("find a", x.find(1), 2);
        due.is("year of 0, the same name", x.numberOf(0, 3), 0);
        due.is("year of 1, had none and has one", x.numberOf(1, 3), 2);
        due.is("year of 2, another name", x.numberOf(2, 3), 1);
        due.is("year of 3, had one and has none", x.numberOf(3, 3), 1);
        due.is("year of 4", x.numberOf(4, 3), 0);
        due.is("users of 3, which has no name now", x.numberOf(3, 1), 0);
        due.is("users of all", x.count(1), 3);
        due.is("no name was lost by it", x.count(7), 1);
        due.is("no name was got by it", x.count(6), 4);
        due.is("compact(0) again", x.compact(0), 0);
        due.is("epoch", x.count(3), 2);
    }

    private static void compactByNames() {
        NameRolls x = Due.rolls("b", "aa", "a", "az", "zz", "ab", "aaa", "bz", "z", "ba");
        due.is("compact(1)", x.compact(1), 7);
        String[] order = {"a", "aa", "aaa", "ab", "az", "b", "ba", "bz", "z", "zz"};
        for (int i = 0; i < order.length; i++) {
            due.is("find " + order[i], x.find(Due.name(order[i])), i);
        }
        due.is("year of 1, the same name", x.numberOf(1, 3), 0);
        due.is("year of 7, the same name", x.numberOf(7, 3), 0);
        due.is("year of 8, the same name", x.numberOf(8, 3), 0);
        due.is("year of 9", x.numberOf(9, 3), 1);
    }

    private static void compactByUsers() {
        NameRolls x = Due.rolls("a", "b", "c", "d");
        x.use(3);
        x.use(3);
        x.use(1);
        x.put(0, 0, 2);
        due.is("compact(2)", x.compact(2), 2);
        due.is("find d", x.find(4), 0);
        due.is("find b", x.find(2), 1);
        due.is("find c", x.find(3), 2);
        due.is("find a", x.find(1), 3);
        due.is("users of 0", x.numberOf(0, 1), 3);
        due.is("users of 3", x.numberOf(3, 1), 1);
        due.is("year of 1", x.numberOf(1, 3), 0);
    }

    private static void compactWithTables() {
        NameRolls x = Due.rolls("c", "b", "a");
        x.put(0, 0, 0);
        x.put(1, 2, 2);
        x.put(2, 5, 2);
        due.is("compact(1)", x.compact(1), 2);
        due.is("cell (0, 0)", x.cellOf(0, 0), Due.tag(1, 1, 2));
        due.is("cell (1, 2)", x.cellOf(1, 2), Due.tag(1, 1, 0));
        due.is("cell (2, 5)", x.cellOf(2, 5), Due.tag(1, 1, 0));
        due.is("cell (0, 1)", x.cellOf(0, 1), Due.NOT_FOUND);
        due.is("cells of 0", x.numberOf(0, 2), 2);
        due.is("users of 0", x.numberOf(0, 1), 3);
        due.is("clear(1, 2)", x.clear(1, 2), 2);
    }

    private static void compactWrongAndEmpty() {
        NameRolls x = new NameRolls();
        due.is("compact(-1)", x.compact(-1), Due.INVALID);
        due.is("compact(3)", x.compact(3), Due.INVALID);
        due.is("compact(max)", x.compact(Integer.MAX_VALUE), Due.INVALID);
        due.is("epoch", x.count(3), 0);
        due.is("states", x.count(9), 0);
        due.is("compact(2) without names", x.compact(2), 0);
        due.is("epoch", x.count(3), 1);
        due.is("states", x.count(9), 1);
        due.is("compaction(0, 1)", x.compaction(0, 1), 0);
    }
}
