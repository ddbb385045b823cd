/** Promises 1 to 7: a new object, names and tags. */
public final class TagsTest {
    private static final Due due = new Due("TagsTest");

    public static void main(String[] args) {
        newObject();
        acquire();
        namesThatAreNone();
        use();
        release();
        yearsOfNumbersGivenBack();
        follow();
        nameOf();
        why();
        due.end();
    }

    private static void newObject() {
        NameRolls x = new NameRolls();
        for (int what = 0; what <= 10; what++) {
            due.is("new: count(" + what + ")", x.count(what), 0);
        }
        for (int number = 0; number < 40; number++) {
            due.is("new: name of " + number, x.numberOf(number, 0), Due.NOT_FOUND);
            due.is("new: users of " + number, x.numberOf(number, 1), 0);
            due.is("new: cells of " + number, x.numberOf(number, 2), 0);
            due.is("new: year of " + number, x.numberOf(number, 3), 0);
            due.is("new: tag of " + number, x.numberOf(number, 4), Due.NOT_FOUND);
        }
        for (int table = 0; table < 3; table++) {
            for (int cell = 0; cell < 6; cell++) {
                due.is("new: cell " + table + ", " + cell, x.cellOf(table, cell), Due.NOT_FOUND);
            }
        }
        due.is("new: compaction(0, 0)", x.compaction(0, 0), Due.NOT_FOUND);
        due.is("new: undo()", x.undo(), Due.NOT_POSSIBLE);
        due.is("new: fault(0)", x.fault(0), Due.NOT_FOUND);
    }

    private static void acquire() {
        NameRolls x = new NameRolls();
        due.is("acquire b", x.acquire(Due.name("b")), 0);
        due.is("acquire a", x.acquire(Due.name("a")), 1);
        due.is("acquire b again", x.acquire(Due.name("b")), 0);
        due.is("users of b", x.numberOf(0, 1), 2);
        due.is("acquire c", x.acquire(Due.name("c")), 2);
        x.release(1);
        due.is("acquire d, the lowest number again", x.acquire(Due.name("d")), 101);
        due.is("acquire e", x.acquire(Due.name("e")), 3);
        x.compact(1);
        due.is("acquire b in the next epoch", x.acquire(Due.name("b")), Due.tag(1, 0, 0));
        due.is("acquire c in the next epoch", x.acquire(Due.name("c")), Due.tag(1, 2, 1));
    }

    private static void namesThatAreNone() {
        NameRolls x = new NameRolls();
        int[] none = {0, -1, -28, 27, 54, 27 * 27, 27 * 27 + 1, 27 * 28, 14348907, 387420489,
            387420490, 387420488 + 27, Integer.MAX_VALUE, Integer.MIN_VALUE, -387420488};
        for (int name : none) {
            due.is("acquire(" + name + ")", x.acquire(name), Due.INVALID);
            due.is("find(" + name + ")", x.find(name), Due.INVALID);
            due.is("beginning(" + name + ")", x.beginning(name), Due.INVALID);
            due.is("behind(" + name + ")", x.behind(name), Due.INVALID);
        }
        due.is("no name is no change", x.count(9), 0);
        due.is("acquire a", x.acquire(1), 0);
        due.is("acquire z", x.acquire(26), 1);
        due.is("acquire aa", x.acquire(28), 2);
        due.is("acquire aaaaaa", x.acquire(Due.name("aaaaaa")), 3);
        due.is("acquire zzzzzz", x.acquire(387420488), 4);
    }

    private static void use() {
        NameRolls x = Due.rolls("a", "b");
        due.is("use(1)", x.use(1), 2);
        due.is("use(1)", x.use(1), 3);
        due.is("users of 0", x.numberOf(0, 1), 1);
        due.is("use(2)", x.use(2), Due.STALE);
        due.is("use(101)", x.use(101), Due.STALE);
        due.is("use(-1)", x.use(-1), Due.STALE);
        due.is("use(min)", x.use(Integer.MIN_VALUE), Due.STALE);
        due.is("use(max)", x.use(Integer.MAX_VALUE), Due.STALE);
        due.is("stale uses are no changes", x.count(9), 4);
        x.compact(2);
        due.is("use(1), followed", x.use(1), 4);
        due.is("users of 0 now", x.numberOf(0, 1), 4);
    }

    private static void release() {
        NameRolls x = Due.rolls("a", "b");
        x.use(0);
        x.put(0, 0, 0);
        due.is("release(0)", x.release(0), 2);
        due.is("release(0)", x.release(0), 1);
        due.is("release(0), a cell alone", x.release(0), Due.NOT_POSSIBLE);
        due.is("users of 0", x.numberOf(0, 1), 1);
        due.is("release(1), the last user", x.release(1), 0);
        due.is("release(1), stale", x.release(1), Due.STALE);
        due.is("release(101), no name", x.release(101), Due.STALE);
        due.is("release(40)", x.release(40), Due.STALE);
        due.is("find b", x.find(Due.name("b")), Due.NOT_FOUND);
        due.is("numbers that lost their names", x.count(7), 1);
    }

    private static void yearsOfNumbersGivenBack() {
        NameRolls x = new NameRolls();
        for (int year = 0; year < 5; year++) {
            due.is("acquire a, year " + year, x.acquire(1), 100 * year);
            due.is("year", x.numberOf(0, 3), year);
            due.is("release", x.release(100 * year), 0);
            due.is("year behind", x.numberOf(0, 3), year + 1);
        }
        due.is("names that got a number", x.count(6), 5);
        due.is("numbers that lost their names", x.count(7), 5);
    }

    private static void follow() {
        NameRolls x = Due.rolls("c", "a", "b");
        due.is("follow(1)", x.follow(1), 1);
        due.is("follow(3)", x.follow(3), Due.STALE);
        x.compact(1);
        due.is("follow(0)", x.follow(0), Due.tag(1, 1, 2));
        due.is("follow(1)", x.follow(1), Due.tag(1, 1, 0));
        due.is("follow(2)", x.follow(2), Due.tag(1, 1, 1));
        due.is("follow of now", x.follow(Due.tag(1, 1, 1)), Due.tag(1, 1, 1));
        x.compact(0);
        due.is("follow(0), nothing moved", x.follow(0), Due.tag(2, 1, 2));
        x.release(Due.tag(2, 1, 0));
        x.compact(0);
        due.is("follow(0), the third", x.follow(0), Due.tag(3, 2, 1));
        due.is("follow(1), given back", x.follow(1), Due.STALE);
        due.is("follow(2)", x.follow(2), Due.tag(3, 3, 0));
        x.compact(0);
        due.is("follow(0), too old", x.follow(0), Due.STALE);
        due.is("follow of epoch 1", x.follow(Due.tag(1, 1, 2)), Due.tag(4, 2, 1));
        due.is("follow of a later epoch", x.follow(Due.tag(5, 2, 1)), Due.STALE);
    }

    private static void nameOf() {
        NameRolls x = Due.rolls("dog", "cat");
        due.is("nameOf(0)", x.nameOf(0), Due.name("dog"));
        x.compact(1);
        due.is("nameOf(0), followed", x.nameOf(0), Due.name("dog"));
        due.is("nameOf(1), followed", x.nameOf(1), Due.name("cat"));
        due.is("nameOf of now", x.nameOf(Due.tag(1, 1, 0)), Due.name("cat"));
        due.is("nameOf of another year", x.nameOf(Due.tag(1, 0, 0)), Due.STALE);
        due.is("nameOf(-1)", x.nameOf(-1), Due.STALE);
        due.is("nameOf(40)", x.nameOf(40), Due.STALE);
        due.is("nameOf without a name", x.nameOf(Due.tag(1, 0, 2)), Due.STALE);
    }

    private static void why() {
        NameRolls x = Due.rolls("a", "b");
        due.is("why(0)", x.why(0), 0);
        due.is("why(-1)", x.why(-1), 1);
        due.is("why(-100)", x.why(-100), 1);
        due.is("why(min)", x.why(Integer.MIN_VALUE), 1);
        due.is("why(max)", x.why(Integer.MAX_VALUE), 1);
        due.is("why(39)", x.why(39), 4);
        due.is("why(40)", x.why(40), 1);
        due.is("why(199)", x.why(199), 1);
        due.is("why(999939)", x.why(999939), 4);
        due.is("why(1000000)", x.why(1000000), 1);
        x.release(1);
        due.is("why(1), no name", x.why(1), 4);
        due.is("why(101), its year without a name", x.why(101), 4);
        x.acquire(2);
        due.is("why(1), another year", x.why(1), 4);
        due.is("why(101)", x.why(101), 0);
        x.compact(0);
        due.is("why(1), another year then", x.why(1), 3);
        due.is("why(2), no name then", x.why(2), 3);
        due.is("why(101), followed", x.why(101), 0);
        x.release(Due.tag(1, 1, 1));
        due.is("why(101), no name now", x.why(101), 4);
        due.is("why(40), an earlier epoch", x.why(40), 1);
        x.compact(0);
        due.is("why(101), at the second", x.why(101), 3);
        x.compact(0);
        due.is("why(0), three compactions", x.why(0), 0);
        x.compact(0);
        due.is("why(0), four compactions", x.why(0), 2);
        due.is("why(2), four compactions", x.why(2), 2);
        due.is("why(40), four compactions", x.why(40), 1);
        due.is("why of epoch 1", x.why(Due.tag(1, 0, 0)), 0);
        due.is("why(5000000)", x.why(5000000), 1);
        due.is("why(4000000)", x.why(4000000), 0);
        due.is("why is no change", x.count(9), 4);
    }
}
