/** The promises 1 to 7, sentence by sentence. */
final class TagSentences {
    private TagSentences() { }

    static void tell(Sentences s) {
        s.tell("Promise 1", "Creates rolls without names,", TagSentences::noNames);
        s.tell("Promise 1", "with empty tables,", TagSentences::emptyTables);
        s.tell("Promise 1", "in the epoch 0.", TagSentences::epochZero);

        s.tell("Promise 2", "Acquires a name. name: the name", TagSentences::acquires);
        s.tell("Promise 2", "Returns a tag of its number;", TagSentences::acquireReturns);
        s.tell("Promise 2", "INVALID_ARGUMENT if it is no name;", TagSentences::acquireNoName);
        s.tell("Promise 2", "LIMIT_REACHED if it needs a number and all have names,",
            TagSentences::acquireAllNames);
        s.tell("Promise 2", "or if its number would have more than 999 users.",
            TagSentences::acquireUsers);

        s.tell("Promise 3", "Lets one user more use a number. tag: a tag", TagSentences::uses);
        s.tell("Promise 3", "Returns how many users it has then;", TagSentences::useReturns);
        s.tell("Promise 3", "STALE;", TagSentences::useStale);
        s.tell("Promise 3", "LIMIT_REACHED if there would be more than 999.",
            TagSentences::useLimit);

        s.tell("Promise 4", "Lets a user, which is no cell of a table, give a number back. "
            + "tag: a tag", TagSentences::releases);
        s.tell("Promise 4", "Returns how many users it has then;", TagSentences::releaseReturns);
        s.tell("Promise 4", "STALE;", TagSentences::releaseStale);
        s.tell("Promise 4", "NOT_POSSIBLE if all its users are cells of tables.",
            TagSentences::releaseCells);

        s.tell("Promise 5", "Follows a tag. tag: a tag", TagSentences::follows);
        s.tell("Promise 5", "Returns the tag of the present epoch for it;",
            TagSentences::followReturns);
        s.tell("Promise 5", "STALE.", TagSentences::followStale);

        s.tell("Promise 6", "Returns the name of a tag. tag: a tag Returns the name;",
            TagSentences::nameOfReturns);
        s.tell("Promise 6", "STALE.", TagSentences::nameOfStale);

        s.tell("Promise 7", "Tells why a tag is stale. tag: any number",
            TagSentences::whyAnyNumber);
        s.tell("Promise 7", "Returns the reason, 1 to 4;", TagSentences::whyReasons);
        s.tell("Promise 7", "0 if it stands.", TagSentences::whyStands);
    }

    private static void noNames(Due due) {
        NameRolls x = new NameRolls();
        for (int number = 0; number < 40; number++) {
            due.is("numberOf(" + number + ", 0)", x.numberOf(number, 0), Due.NOT_FOUND);
            due.is("numberOf(" + number + ", 1)", x.numberOf(number, 1), 0);
        }
        for (int rule = 0; rule < 3; rule++) {
            due.is("nameAt(" + rule + ", 0)", x.nameAt(rule, 0), Due.NOT_FOUND);
        }
        int[] none = {0, 1, 4, 5, 6, 7, 9, 10};
        for (int what : none) {
            due.is("count(" + what + ")", x.count(what), 0);
        }
        due.is("undo()", x.undo(), Due.NOT_POSSIBLE);
        NameRolls other = Due.rolls("a");
        due.is("names, another one made in between", x.count(0), 0);
        due.is("names of the other one", other.count(0), 1);
    }

    private static void emptyTables(Due due) {
        NameRolls x = new NameRolls();
        for (int i = 0; i < 18; i++) {
            due.is("cellOf, cell " + i, x.cellOf(i / 6, i % 6), Due.NOT_FOUND);
            due.is("clear, cell " + i, x.clear(i / 6, i % 6), Due.NOT_POSSIBLE);
        }
        due.is("count(2)", x.count(2), 0);
        due.is("numberOf(0, 2)", x.numberOf(0, 2), 0);
    }

    private static void epochZero(Due due) {
        NameRolls x = new NameRolls();
        due.is("count(3)", x.count(3), 0);
        due.is("count(8)", x.count(8), 0);
        due.is("compaction(0, 0)", x.compaction(0, 0), Due.NOT_FOUND);
        due.is("why(0)", x.why(0), 4);
        due.is("why(1000000)", x.why(1000000), 1);
    }

    private static void acquires(Due due) {
        NameRolls x = new NameRolls();
        x.acquire(Due.name("dog"));
        x.acquire(Due.name("cat"));
        due.is("find dog", x.find(Due.name("dog")), 0);
        due.is("find cat", x.find(Due.name("cat")), 1);
        due.is("names", x.count(0), 2);
        x.acquire(Due.name("dog"));
        due.is("names", x.count(0), 2);
        due.is("users of dog", x.numberOf(0, 1), 2);
        due.is("names that got a number", x.count(6), 2);
    }

    private static void acquireReturns(Due due) {
        NameRolls x = new NameRolls();
        due.is("acquire b", x.acquire(2), 0);
        due.is("acquire a", x.acquire(1), 1);
        due.is("acquire a again", x.acquire(1), 1);
        x.release(0);
        due.is("acquire c, year 1", x.acquire(3), 100);
        x.compact(1);
        due.is("acquire a, epoch 1", x.acquire(1), 1000200);
        due.is("acquire z, epoch 1", x.acquire(26), 1000002);
    }

    private static void acquireNoName(Due due) {
        NameRolls x = new NameRolls();
        int[] none = {0, -1, -27, -28, 27, 54, 729, 730, 387420489, 387420490, 402321277,
            Integer.MAX_VALUE, Integer.MIN_VALUE, -387420488};
        for (int name : none) {
            due.is("acquire(" + name + ")", x.acquire(name), Due.INVALID);
        }
        due.is("names", x.count(0), 0);
    }

    private static void acquireAllNames(Due due) {
        NameRolls x = Due.full();
        due.is("acquire, the 41st name", x.acquire(1), Due.LIMIT);
        due.is("acquire, one of the 40", x.acquire(Due.nth(0)), 0);
        x.release(39);
        due.is("acquire, one free", x.acquire(1), 139);
        due.is("acquire, none free", x.acquire(2), Due.LIMIT);
        due.is("find b", x.find(2), Due.NOT_FOUND);
    }

    private static void acquireUsers(Due due) {
        NameRolls x = Due.crowded();
        due.is("acquire a, 999 users", x.acquire(1), Due.LIMIT);
        due.is("users of a", x.numberOf(0, 1), 999);
        due.is("acquire b", x.acquire(2), 1);
        due.is("acquire c", x.acquire(3), 2);
        x.release(0);
        due.is("acquire a, 998 users", x.acquire(1), 0);
        due.is("users of a", x.numberOf(0, 1), 999);
        x.compact(0);
        due.is("acquire a, epoch 1", x.acquire(1), Due.LIMIT);
    }

    private static void uses(Due due) {
        NameRolls x = Due.rolls("a", "b");
        x.use(1);
        due.is("users of b", x.numberOf(1, 1), 2);
        due.is("users of a", x.numberOf(0, 1), 1);
        due.is("users of all", x.count(1), 3);
        due.is("names that got a number", x.count(6), 2);
        due.is("cells of b", x.numberOf(1, 2), 0);
    }

    private static void useReturns(Due due) {
        NameRolls x = Due.rolls("b", "a");
        due.is("use(0)", x.use(0), 2);
        due.is("use(0)", x.use(0), 3);
        due.is("use(1)", x.use(1), 2);
        x.put(0, 0, 1);
        due.is("use(1), a cell too", x.use(1), 4);
        x.compact(1);
        due.is("use(0), followed", x.use(0), 4);
        due.is("use(1), followed", x.use(1), 5);
    }

    private static void useStale(Due due) {
        NameRolls x = Due.rolls("a");
        int[] none = {-1, 1, 39, 40, 100, 1000000, Integer.MAX_VALUE, Integer.MIN_VALUE};
        for (int tag : none) {
            due.is("use(" + tag + ")", x.use(tag), Due.STALE);
        }
        for (int i = 0; i < 4; i++) {
            x.compact(0);
        }
        due.is("use(0), too old", x.use(0), Due.STALE);
        due.is("use(1000001), no name then", x.use(1000001), Due.STALE);
        due.is("use(1000000)", x.use(1000000), 2);
    }

    private static void useLimit(Due due) {
        NameRolls x = Due.crowded();
        due.is("use(0), 999 users", x.use(0), Due.LIMIT);
        x.release(0);
        due.is("use(0), 998 users", x.use(0), 999);
        due.is("use(0), 999 users", x.use(0), Due.LIMIT);
        due.is("use(1)", x.use(1), 2);
    }

    private static void releases(Due due) {
        NameRolls x = Due.rolls("a", "b");
        x.put(0, 0, 0);
        x.put(0, 1, 1);
        x.release(0);
        due.is("cellOf(0, 0)", x.cellOf(0, 0), 0);
        due.is("cells", x.count(2), 2);
        due.is("users of a", x.numberOf(0, 1), 1);
        due.is("cells of a", x.numberOf(0, 2), 1);
        due.is("users of b", x.numberOf(1, 1), 2);
    }

    private static void releaseReturns(Due due) {
        NameRolls x = Due.rolls("a", "a", "a", "b");
        due.is("release(0)", x.release(0), 2);
        due.is("release(0)", x.release(0), 1);
        due.is("release(0), the last one", x.release(0), 0);
        x.use(1);
        x.compact(0);
        due.is("release(1), followed", x.release(1), 1);
        due.is("release(1), the last one", x.release(1), 0);
        due.is("names", x.count(0), 0);
        due.is("release, of 999", Due.crowded().release(0), 998);
    }

    private static void releaseStale(Due due) {
        NameRolls x = Due.rolls("a", "b");
        x.release(1);
        int[] none = {1, 101, 2, 40, 100, -1, 1000000, Integer.MAX_VALUE, Integer.MIN_VALUE};
        for (int tag : none) {
            due.is("release(" + tag + ")", x.release(tag), Due.STALE);
        }
        for (int i = 0; i < 4; i++) {
            x.compact(0);
        }
        due.is("release(0), too old", x.release(0), Due.STALE);
        due.is("release(1000000)", x.release(1000000), 0);
    }

    private static void releaseCells(Due due) {
        NameRolls x = Due.rolls("a", "b");
        for (int i = 0; i < 18; i++) {
            x.put(i / 6, i % 6, 0);
        }
        due.is("release(0)", x.release(0), 18);
        due.is("release(0), 18 cells", x.release(0), Due.NOT_POSSIBLE);
        x.clear(2, 5);
        due.is("release(0), 17 cells", x.release(0), Due.NOT_POSSIBLE);
        due.is("use(0)", x.use(0), 18);
        due.is("release(0)", x.release(0), 17);
        due.is("release(1), no cell", x.release(1), 0);
        x.compact(0);
        due.is("release(0), followed", x.release(0), Due.NOT_POSSIBLE);
    }

    private static void follows(Due due) {
        NameRolls x = Due.rolls("b", "a");
        x.compact(1);
        due.is("follow(0)", x.follow(0), 1000101);
        due.is("follow(1)", x.follow(1), 1000100);
        due.is("follow(1000101)", x.follow(1000101), 1000101);
        due.is("users, it is no change", x.count(1), 2);
    }

    private static void followReturns(Due due) {
        NameRolls x = Due.rolls("a");
        due.is("follow(0)", x.follow(0), 0);
        x.compact(0);
        due.is("follow(0), epoch 1", x.follow(0), 1000000);
        x.compact(1);
        due.is("follow(0), epoch 2", x.follow(0), 2000000);
        x.compact(2);
        due.is("follow(0), epoch 3", x.follow(0), 3000000);
        due.is("follow(2000000), epoch 3", x.follow(2000000), 3000000);
        due.is("follow, epoch 999", Due.lastEpoch().follow(996000001), 999000001);
    }

    private static void followStale(Due due) {
        NameRolls x = Due.rolls("a", "b");
        x.release(1);
        x.acquire(2);
        int[] none = {1, 201, 2, 40, -1, 1000000, Integer.MAX_VALUE, Integer.MIN_VALUE};
        for (int tag : none) {
            due.is("follow(" + tag + ")", x.follow(tag), Due.STALE);
        }
        for (int i = 0; i < 4; i++) {
            due.is("follow(0), epoch " + i, x.follow(0), 1000000 * i);
            x.compact(0);
        }
        due.is("follow(0), epoch 4", x.follow(0), Due.STALE);
        due.is("follow(1000001)", x.follow(1000001), Due.STALE);
    }

    private static void nameOfReturns(Due due) {
        NameRolls x = Due.rolls("zzzzzz", "a", "ab");
        for (int epoch = 0; epoch < 4; epoch++) {
            due.is("nameOf(0)", x.nameOf(0), 387420488);
            due.is("nameOf(1)", x.nameOf(1), 1);
            due.is("nameOf(2)", x.nameOf(2), 29);
            x.compact(1);
        }
        due.is("nameOf(4000102)", x.nameOf(4000102), 387420488);
    }

    private static void nameOfStale(Due due) {
        NameRolls x = Due.rolls("a", "b");
        x.release(1);
        x.acquire(2);
        int[] none = {1, 201, 2, 40, -1, 1000000, Integer.MAX_VALUE, Integer.MIN_VALUE};
        for (int tag : none) {
            due.is("nameOf(" + tag + ")", x.nameOf(tag), Due.STALE);
        }
        for (int i = 0; i < 4; i++) {
            due.is("nameOf(101), epoch " + i, x.nameOf(101), 2);
            x.compact(0);
        }
        due.is("nameOf(101), epoch 4", x.nameOf(101), Due.STALE);
    }

    private static void whyAnyNumber(Due due) {
        int[] any = {Integer.MIN_VALUE, Integer.MIN_VALUE + 1, -1000005, -1000000, -1,
            Integer.MAX_VALUE, 2147000000, 999999999, 1000000000};
        NameRolls x = new NameRolls();
        NameRolls last = Due.lastEpoch();
        for (int tag : any) {
            due.is("why(" + tag + ")", x.why(tag), 1);
            due.is("why(" + tag + "), epoch 999", last.why(tag), 1);
        }
    }

    private static void whyReasons(Due due) {
        NameRolls x = Due.rolls("a");
        due.is("why(40)", x.why(40), 1);
        due.is("why(1)", x.why(1), 4);
        x.compact(0);
        due.is("why(1)", x.why(1), 3);
        due.is("why(100)", x.why(100), 3);
        due.is("why(1000001)", x.why(1000001), 4);
        due.is("why(2000000)", x.why(2000000), 1);
        x.compact(0);
        x.compact(0);
        due.is("why(1)", x.why(1), 3);
        x.compact(0);
        due.is("why(1)", x.why(1), 2);
        due.is("why(1000001)", x.why(1000001), 3);
    }

    private static void whyStands(Due due) {
        NameRolls x = Due.full();
        for (int number = 0; number < 40; number++) {
            due.is("why(" + number + ")", x.why(number), 0);
        }
        x.compact(2);
        x.compact(1);
        x.compact(0);
        for (int number = 0; number < 40; number++) {
            due.is("why(" + number + "), epoch 3", x.why(number), 0);
            due.is("why, of epoch 3", x.why(3000000 + number), 0);
        }
    }
}
