/** The promises 8 to 11, sentence by sentence. */
final class TableSentences {
    private static final int[][] NO_CELLS = {{-1, 0}, {3, 0}, {0, -1}, {0, 6}, {2, 6}, {3, 5},
        {1, -6}, {-1, 6}, {0, 18}, {Integer.MIN_VALUE, 0}, {Integer.MAX_VALUE, 0},
        {0, Integer.MIN_VALUE}, {0, Integer.MAX_VALUE}, {715827883, 0}};

    private TableSentences() { }

    static void tell(Sentences s) {
        s.tell("Promise 8", "Puts a number into a cell,", TableSentences::puts);
        s.tell("Promise 8", "in place of what it has (which is given back by the cell",
            TableSentences::putInPlace);
        s.tell("Promise 8", "behind that).", TableSentences::givenBackBehind);
        s.tell("Promise 8", "table: 0 to 2 cell: 0 to 5 tag: a tag", TableSentences::putEverywhere);
        s.tell("Promise 8", "Returns how many users the number has then, behind all of this;",
            TableSentences::putReturns);
        s.tell("Promise 8", "INVALID_ARGUMENT if table or cell is out of range;",
            TableSentences::putNoCell);
        s.tell("Promise 8", "STALE;", TableSentences::putStale);
        s.tell("Promise 8", "LIMIT_REACHED if it would have more than 999 users,",
            TableSentences::putLimit);
        s.tell("Promise 8", "the cell as it was counted, too.", TableSentences::putLimitWithCell);

        s.tell("Promise 9", "Empties a cell, which gives its number back.",
            TableSentences::empties);
        s.tell("Promise 9", "table: 0 to 2 cell: 0 to 5", TableSentences::clearEverywhere);
        s.tell("Promise 9", "Returns how many users the number has then;",
            TableSentences::clearReturns);
        s.tell("Promise 9", "INVALID_ARGUMENT if an argument is out of range;",
            TableSentences::clearNoCell);
        s.tell("Promise 9", "NOT_POSSIBLE if the cell is empty.", TableSentences::clearEmpty);

        s.tell("Promise 10", "Returns what is in a cell.", TableSentences::cellOfReturns);
        s.tell("Promise 10", "table: 0 to 2 cell: 0 to 5", TableSentences::putEverywhere);
        s.tell("Promise 10", "Returns a tag of its number;", TableSentences::cellOfTag);
        s.tell("Promise 10", "INVALID_ARGUMENT if an argument is out of range;",
            TableSentences::cellOfNoCell);
        s.tell("Promise 10", "NOT_FOUND if the cell is empty.", TableSentences::cellOfEmpty);

        s.tell("Promise 11", "Makes a compaction.", TableSentences::compacts);
        s.tell("Promise 11", "rule: 0 to 2", TableSentences::rules);
        s.tell("Promise 11", "Returns how many names have got another number;",
            TableSentences::compactReturns);
        s.tell("Promise 11", "INVALID_ARGUMENT if rule is out of range;",
            TableSentences::compactNoRule);
        s.tell("Promise 11", "LIMIT_REACHED if the epoch would be above 999.",
            TableSentences::compactLimit);
    }

    private static void puts(Due due) {
        NameRolls x = Due.rolls("a", "b");
        due.is("put(0, 0, 1)", x.put(0, 0, 1), 2);
        due.is("cellOf(0, 0)", x.cellOf(0, 0), 1);
        due.is("cells of 1", x.numberOf(1, 2), 1);
        due.is("cells of 0", x.numberOf(0, 2), 0);
        due.is("cells", x.count(2), 1);
        x.compact(2);
        due.is("put(0, 1, 0), followed", x.put(0, 1, 0), 2);
        due.is("cellOf(0, 1)", x.cellOf(0, 1), 1000101);
    }

    private static void putInPlace(Due due) {
        NameRolls x = Due.rolls("a", "b", "c");
        x.put(0, 0, 0);
        due.is("put(0, 0, 1)", x.put(0, 0, 1), 2);
        due.is("cellOf(0, 0)", x.cellOf(0, 0), 1);
        due.is("users of a", x.numberOf(0, 1), 1);
        due.is("cells of a", x.numberOf(0, 2), 0);
        due.is("find a", x.find(1), 0);
        x.release(1);
        due.is("put(0, 0, 2), b was the cell's alone", x.put(0, 0, 2), 2);
        due.is("find b", x.find(2), Due.NOT_FOUND);
        due.is("users of 1", x.numberOf(1, 1), 0);
        due.is("year of 1", x.numberOf(1, 3), 1);
        due.is("numbers that lost their names", x.count(7), 1);
        due.is("cells", x.count(2), 1);
    }

    private static void givenBackBehind(Due due) {
        NameRolls x = Due.rolls("a");
        x.put(0, 0, 0);
        due.is("put again, 2 users", x.put(0, 0, 0), 2);
        x.release(0);
        due.is("put again, the cell its one user", x.put(0, 0, 0), 1);
        due.is("find a", x.find(1), 0);
        due.is("year of 0", x.numberOf(0, 3), 0);
        due.is("cellOf(0, 0)", x.cellOf(0, 0), 0);
        due.is("numbers that lost their names", x.count(7), 0);
        due.is("names that got a number", x.count(6), 1);
    }

    private static void putEverywhere(Due due) {
        NameRolls x = Due.full();
        for (int i = 0; i < 18; i++) {
            due.is("put, cell " + i, x.put(i / 6, i % 6, 20 + i), 2);
            due.is("cells", x.count(2), i + 1);
        }
        for (int i = 0; i < 18; i++) {
            due.is("cellOf, cell " + i, x.cellOf(i / 6, i % 6), 20 + i);
        }
    }

    private static void putReturns(Due due) {
        NameRolls x = Due.rolls("a", "b", "b", "b");
        for (int i = 0; i < 18; i++) {
            due.is("put a, cell " + i, x.put(i / 6, i % 6, 0), i + 2);
        }
        due.is("put a in place of a", x.put(1, 1, 0), 19);
        due.is("put b in place of a", x.put(1, 1, 1), 4);
        due.is("put b in place of b", x.put(1, 1, 1), 4);
        due.is("put a in place of b", x.put(1, 1, 0), 19);
    }

    private static void putNoCell(Due due) {
        NameRolls x = Due.rolls("a");
        for (int[] at : NO_CELLS) {
            String call = "put(" + at[0] + ", " + at[1] + ", 0)";
            due.is(call, x.put(at[0], at[1], 0), Due.INVALID);
        }
        due.is("cells", x.count(2), 0);
        due.is("users", x.count(1), 1);
    }

    private static void putStale(Due due) {
        NameRolls x = Due.rolls("a", "b");
        x.put(0, 0, 0);
        x.release(1);
        int[] none = {1, 101, 2, 40, 100, -1, 1000000, Integer.MAX_VALUE, Integer.MIN_VALUE};
        for (int tag : none) {
            due.is("put(0, 0, " + tag + ")", x.put(0, 0, tag), Due.STALE);
            due.is("put(2, 5, " + tag + ")", x.put(2, 5, tag), Due.STALE);
        }
        due.is("cellOf(0, 0)", x.cellOf(0, 0), 0);
        for (int i = 0; i < 4; i++) {
            x.compact(0);
        }
        due.is("put(0, 1, 0), too old", x.put(0, 1, 0), Due.STALE);
        due.is("put(0, 1, 1000000)", x.put(0, 1, 1000000), 3);
    }

    private static void putLimit(Due due) {
        NameRolls x = Due.crowded();
        due.is("put(0, 0, 0), 999 users", x.put(0, 0, 0), Due.LIMIT);
        due.is("cellOf(0, 0)", x.cellOf(0, 0), Due.NOT_FOUND);
        x.put(0, 0, 1);
        due.is("put(0, 0, 0), in place of b", x.put(0, 0, 0), Due.LIMIT);
        due.is("cellOf(0, 0)", x.cellOf(0, 0), 1);
        due.is("users of b", x.numberOf(1, 1), 2);
        x.release(0);
        due.is("put(0, 0, 0), 998 users", x.put(0, 0, 0), 999);
        due.is("users of b", x.numberOf(1, 1), 1);
    }

    private static void putLimitWithCell(Due due) {
        NameRolls x = Due.crowded();
        x.release(0);
        x.put(0, 0, 0);
        due.is("users of a", x.numberOf(0, 1), 999);
        due.is("put(0, 0, 0), it has a already", x.put(0, 0, 0), Due.LIMIT);
        x.release(0);
        due.is("put(0, 0, 0), 998 users", x.put(0, 0, 0), 998);
        due.is("put(0, 0, 1)", x.put(0, 0, 1), 2);
        due.is("users of a", x.numberOf(0, 1), 997);
    }

    private static void empties(Due due) {
        NameRolls x = Due.rolls("a", "b");
        x.put(0, 0, 0);
        x.put(0, 1, 1);
        x.clear(0, 0);
        due.is("cellOf(0, 0)", x.cellOf(0, 0), Due.NOT_FOUND);
        due.is("cellOf(0, 1)", x.cellOf(0, 1), 1);
        due.is("users of a", x.numberOf(0, 1), 1);
        due.is("cells of a", x.numberOf(0, 2), 0);
        x.release(1);
        x.clear(0, 1);
        due.is("find b, the cell its one user", x.find(2), Due.NOT_FOUND);
        due.is("year of 1", x.numberOf(1, 3), 1);
        due.is("numbers that lost their names", x.count(7), 1);
        due.is("cells", x.count(2), 0);
    }

    private static void clearEverywhere(Due due) {
        NameRolls x = Due.rolls("a");
        for (int i = 0; i < 18; i++) {
            x.put(i / 6, i % 6, 0);
        }
        for (int i = 0; i < 18; i++) {
            due.is("clear, cell " + i, x.clear(i / 6, i % 6), 18 - i);
            due.is("cellOf", x.cellOf(i / 6, i % 6), Due.NOT_FOUND);
            due.is("cells", x.count(2), 17 - i);
        }
    }

    private static void clearReturns(Due due) {
        NameRolls x = Due.rolls("b", "a");
        x.use(0);
        x.put(0, 0, 0);
        x.put(1, 0, 0);
        x.put(2, 0, 1);
        due.is("clear(0, 0)", x.clear(0, 0), 3);
        x.compact(1);
        due.is("clear(1, 0), epoch 1", x.clear(1, 0), 2);
        x.release(1);
        due.is("clear(2, 0), the last user", x.clear(2, 0), 0);
    }

    private static void clearNoCell(Due due) {
        NameRolls x = Due.rolls("a");
        for (int i = 0; i < 18; i++) {
            x.put(i / 6, i % 6, 0);
        }
        for (int[] at : NO_CELLS) {
            due.is("clear(" + at[0] + ", " + at[1] + ")", x.clear(at[0], at[1]), Due.INVALID);
        }
        due.is("cells", x.count(2), 18);
    }

    private static void clearEmpty(Due due) {
        NameRolls x = Due.rolls("a");
        due.is("clear(0, 0)", x.clear(0, 0), Due.NOT_POSSIBLE);
        x.put(0, 1, 0);
        due.is("clear(0, 0)", x.clear(0, 0), Due.NOT_POSSIBLE);
        due.is("clear(1, 1)", x.clear(1, 1), Due.NOT_POSSIBLE);
        due.is("clear(0, 1)", x.clear(0, 1), 1);
        due.is("clear(0, 1) again", x.clear(0, 1), Due.NOT_POSSIBLE);
        due.is("users of a", x.numberOf(0, 1), 1);
    }

    private static void cellOfReturns(Due due) {
        NameRolls x = Due.rolls("a", "b");
        x.put(2, 4, 1);
        due.is("cellOf(2, 4)", x.cellOf(2, 4), 1);
        x.put(2, 4, 0);
        due.is("cellOf(2, 4), put again", x.cellOf(2, 4), 0);
        x.undo();
        due.is("cellOf(2, 4), taken back", x.cellOf(2, 4), 1);
        due.is("users, it is no change", x.count(1), 3);
    }

    private static void cellOfTag(Due due) {
        NameRolls x = Due.rolls("b", "a");
        x.release(1);
        x.acquire(1);
        x.put(0, 0, 101);
        x.put(0, 1, 0);
        due.is("cellOf(0, 0), year 1", x.cellOf(0, 0), 101);
        x.compact(1);
        due.is("cellOf(0, 0), epoch 1", x.cellOf(0, 0), 1000100);
        due.is("cellOf(0, 1), epoch 1", x.cellOf(0, 1), 1000201);
        due.is("use(cellOf(0, 1))", x.use(x.cellOf(0, 1)), 3);
    }

    private static void cellOfNoCell(Due due) {
        NameRolls x = Due.rolls("a");
        for (int i = 0; i < 18; i++) {
            x.put(i / 6, i % 6, 0);
        }
        for (int[] at : NO_CELLS) {
            due.is("cellOf(" + at[0] + ", " + at[1] + ")", x.cellOf(at[0], at[1]), Due.INVALID);
        }
    }

    private static void cellOfEmpty(Due due) {
        NameRolls x = Due.rolls("a");
        due.is("cellOf(0, 0)", x.cellOf(0, 0), Due.NOT_FOUND);
        x.put(0, 0, 0);
        due.is("cellOf(1, 0)", x.cellOf(1, 0), Due.NOT_FOUND);
        due.is("cellOf(0, 1)", x.cellOf(0, 1), Due.NOT_FOUND);
        x.clear(0, 0);
        due.is("cellOf(0, 0), emptied", x.cellOf(0, 0), Due.NOT_FOUND);
        x.compact(0);
        due.is("cellOf(0, 0), epoch 1", x.cellOf(0, 0), Due.NOT_FOUND);
    }

    private static void compacts(Due due) {
        NameRolls x = Due.rolls("c", "b", "a", "d");
        x.release(3);
        x.compact(1);
        due.is("epoch", x.count(3), 1);
        due.is("names", x.count(0), 3);
        due.is("find a", x.find(1), 0);
        due.is("find b", x.find(2), 1);
        due.is("find c", x.find(3), 2);
        due.is("compactions kept", x.count(8), 1);
        due.is("names that got a number", x.count(6), 4);
        due.is("numbers that lost their names", x.count(7), 1);
    }

    private static void rules(Due due) {
        String[] starts = {"b", "a", "c"};
        for (int rule = 0; rule < 3; rule++) {
            NameRolls x = Due.rolls("b", "a", "c", "c");
            due.is("compact(" + rule + ")", x.compact(rule), new int[] {0, 2, 3}[rule]);
            due.is("name of 0", x.numberOf(0, 0), Due.name(starts[rule]));
            due.is("its rule", x.compaction(0, 0), rule);
        }
    }

    private static void compactReturns(Due due) {
        due.is("compact(0) without names", new NameRolls().compact(0), 0);
        NameRolls x = Due.full();
        due.is("compact(1), none moves", x.compact(1), 0);
        x.release(0);
        due.is("compact(0), all move", x.compact(0), 39);
        due.is("compact(0), none moves", x.compact(0), 0);
        x.release(2000119);
        due.is("compact(0), those behind it", x.compact(0), 19);
        NameRolls y = new NameRolls();
        for (int i = 39; i >= 0; i--) {
            y.acquire(Due.nth(i));
        }
        due.is("compact(1), 40 names", y.compact(1), 40);
    }

    private static void compactNoRule(Due due) {
        NameRolls x = Due.rolls("b", "a");
        int[] none = {-1, 3, 4, Integer.MAX_VALUE, Integer.MIN_VALUE};
        for (int rule : none) {
            due.is("compact(" + rule + ")", x.compact(rule), Due.INVALID);
        }
        due.is("epoch", x.count(3), 0);
        due.is("states", x.count(9), 2);
    }

    private static void compactLimit(Due due) {
        NameRolls x = Due.lastEpoch();
        due.is("epoch", x.count(3), 999);
        for (int rule = 0; rule < 3; rule++) {
            due.is("compact(" + rule + ")", x.compact(rule), Due.LIMIT);
        }
        due.is("find b", x.find(2), 0);
        x.undo();
        due.is("compact(1), to epoch 999", x.compact(1), 2);
        due.is("epoch", x.count(3), 999);
        due.is("tag of 0", x.numberOf(0, 4), 999000100);
    }
}
