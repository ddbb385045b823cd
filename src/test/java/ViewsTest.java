/** Promises 12 to 19: what there is. */
public final class ViewsTest {
    private static final Due due = new Due("ViewsTest");

    public static void main(String[] args) {
        numberOf();
        find();
        nameAt();
        beginning();
        behind();
        wouldBe();
        compaction();
        tagsThatStillStand();
        count();
        viewsAreNoChanges();
        due.end();
    }

    private static void numberOf() {
        NameRolls x = Due.rolls("b", "a");
        x.use(1);
        x.put(0, 3, 1);
        x.put(0, 4, 1);
        x.release(0);
        due.is("numberOf(1, 0)", x.numberOf(1, 0), 1);
        due.is("numberOf(1, 1)", x.numberOf(1, 1), 4);
        due.is("numberOf(1, 2)", x.numberOf(1, 2), 2);
        due.is("numberOf(1, 3)", x.numberOf(1, 3), 0);
        due.is("numberOf(1, 4)", x.numberOf(1, 4), 1);
        due.is("numberOf(0, 0)", x.numberOf(0, 0), Due.NOT_FOUND);
        due.is("numberOf(0, 1)", x.numberOf(0, 1), 0);
        due.is("numberOf(0, 2)", x.numberOf(0, 2), 0);
        due.is("numberOf(0, 3)", x.numberOf(0, 3), 1);
        due.is("numberOf(0, 4)", x.numberOf(0, 4), Due.NOT_FOUND);
        x.compact(0);
        due.is("numberOf(0, 4)", x.numberOf(0, 4), Due.tag(1, 2, 0));
        due.is("numberOf(39, 3)", x.numberOf(39, 3), 0);
        int[][] wrong = {{-1, 0}, {40, 0}, {0, -1}, {0, 5}, {Integer.MIN_VALUE, 3}, {39, 6}};
        for (int[] w : wrong) {
            due.is("numberOf(" + w[0] + ", " + w[1] + ")", x.numberOf(w[0], w[1]), Due.INVALID);
        }
    }

    private static void find() {
        NameRolls x = Due.rolls("x", "abc", "zzzzzz");
        due.is("find x", x.find(24), 0);
        due.is("find abc", x.find(786), 1);
        due.is("find zzzzzz", x.find(387420488), 2);
        due.is("find ab", x.find(29), Due.NOT_FOUND);
        due.is("find(0)", x.find(0), Due.INVALID);
        due.is("find(27)", x.find(27), Due.INVALID);
    }

    private static void nameAt() {
        NameRolls x = Due.rolls("b", "ab", "a", "c");
        x.use(3);
        x.use(1);
        x.release(0);
        String[][] orders = {{"ab", "a", "c"}, {"a", "ab", "c"}, {"ab", "c", "a"}};
        for (int rule = 0; rule < 3; rule++) {
            for (int place = 0; place < 3; place++) {
                int want = Due.name(orders[rule][place]);
                due.is("nameAt(" + rule + ", " + place + ")", x.nameAt(rule, place), want);
            }
            due.is("nameAt(" + rule + ", 3)", x.nameAt(rule, 3), Due.NOT_FOUND);
            due.is("nameAt(" + rule + ", -1)", x.nameAt(rule, -1), Due.INVALID);
            int max = Integer.MAX_VALUE;
            due.is("nameAt(" + rule + ", max)", x.nameAt(rule, max), Due.NOT_FOUND);
        }
        due.is("nameAt(0, 0) is at 0", Due.rolls("b", "a").nameAt(0, 0), Due.name("b"));
        due.is("nameAt(3, 0)", x.nameAt(3, 0), Due.INVALID);
        due.is("nameAt(-1, 99)", x.nameAt(-1, 99), Due.INVALID);
        due.is("nameAt(0, 0) of nothing", new NameRolls().nameAt(0, 0), Due.NOT_FOUND);
    }

    private static void beginning() {
        NameRolls x = Due.rolls("a", "ab", "abc", "abcdef", "b", "ba", "aab", "bab");
        due.is("beginning a", x.beginning(Due.name("a")), 5);
        due.is("beginning ab", x.beginning(Due.name("ab")), 3);
        due.is("beginning abc", x.beginning(Due.name("abc")), 2);
        due.is("beginning abcd", x.beginning(Due.name("abcd")), 1);
        due.is("beginning abcdef", x.beginning(Due.name("abcdef")), 1);
        due.is("beginning abcdeg", x.beginning(Due.name("abcdeg")), 0);
        due.is("beginning b", x.beginning(Due.name("b")), 3);
        due.is("beginning c", x.beginning(Due.name("c")), 0);
        due.is("beginning z, at 0", Due.rolls("zz", "a").beginning(Due.name("z")), 1);
        x.release(0);
        due.is("beginning a without a", x.beginning(Due.name("a")), 4);
        due.is("beginning(27)", x.beginning(27), Due.INVALID);
        due.is("beginning(0)", x.beginning(0), Due.INVALID);
    }

    private static void behind() {
        NameRolls x = Due.rolls("z", "b", "ab", "abc", "aaz");
        due.is("behind a", x.behind(Due.name("a")), Due.name("aaz"));
        due.is("behind aaz", x.behind(Due.name("aaz")), Due.name("ab"));
        due.is("behind ab", x.behind(Due.name("ab")), Due.name("abc"));
        due.is("behind abc", x.behind(Due.name("abc")), Due.name("b"));
        due.is("behind abd", x.behind(Due.name("abd")), Due.name("b"));
        due.is("behind azzzzz", x.behind(Due.name("azzzzz")), Due.name("b"));
        due.is("behind b", x.behind(Due.name("b")), Due.name("z"));
        due.is("behind y", x.behind(Due.name("y")), Due.name("z"));
        due.is("behind z", x.behind(Due.name("z")), Due.NOT_FOUND);
        due.is("behind za", x.behind(Due.name("za")), Due.NOT_FOUND);
        due.is("behind(-1)", x.behind(-1), Due.INVALID);
        due.is("behind(54)", x.behind(54), Due.INVALID);
    }

    private static void wouldBe() {
        NameRolls x = Due.rolls("c", "x", "b", "a");
        x.release(1);
        x.use(3);
        int[][] due4 = {{0, 2, 1}, {-1, -1, -1}, {1, 1, 2}, {2, 0, 0}};
        for (int number = 0; number < 4; number++) {
            for (int rule = 0; rule < 3; rule++) {
                int want = due4[number][rule] < 0 ? Due.NOT_FOUND : due4[number][rule];
                due.is("wouldBe(" + number + ", " + rule + ")", x.wouldBe(number, rule), want);
            }
        }
        due.is("wouldBe(39, 0)", x.wouldBe(39, 0), Due.NOT_FOUND);
        due.is("wouldBe(40, 0)", x.wouldBe(40, 0), Due.INVALID);
        due.is("wouldBe(-1, 0)", x.wouldBe(-1, 0), Due.INVALID);
        due.is("wouldBe(0, 3)", x.wouldBe(0, 3), Due.INVALID);
        due.is("wouldBe(1, -1)", x.wouldBe(1, -1), Due.INVALID);
    }

    private static void compaction() {
        NameRolls x = Due.rolls("c", "b", "a");
        x.compact(1);
        due.is("compaction(0, 0)", x.compaction(0, 0), 1);
        due.is("compaction(0, 1)", x.compaction(0, 1), 3);
        due.is("compaction(0, 2)", x.compaction(0, 2), 2);
        due.is("compaction(0, 3)", x.compaction(0, 3), 3);
        due.is("compaction(1, 0)", x.compaction(1, 0), Due.NOT_FOUND);
        x.release(0);
        x.compact(0);
        x.acquire(26);
        x.compact(2);
        int[][] want = {{2, 3, 0, 3}, {0, 2, 0, 2}, {1, 3, 2, 2}};
        for (int index = 0; index < 3; index++) {
            for (int what = 0; what < 4; what++) {
                String call = "compaction(" + index + ", " + what + ")";
                due.is(call, x.compaction(index, what), want[index][what]);
            }
        }
        x.compact(1);
        due.is("compaction(0, 0)", x.compaction(0, 0), 1);
        due.is("compaction(1, 0)", x.compaction(1, 0), 2);
        due.is("compaction(2, 0)", x.compaction(2, 0), 0);
        int[][] wrong = {{-1, 0}, {3, 0}, {0, -1}, {0, 4}, {Integer.MAX_VALUE, 0}};
        for (int[] w : wrong) {
            String call = "compaction(" + w[0] + ", " + w[1] + ")";
            due.is(call, x.compaction(w[0], w[1]), Due.INVALID);
        }
        due.is("compaction(2, 4) of nothing", new NameRolls().compaction(2, 4), Due.INVALID);
        due.is("compaction(2, 3) of nothing", new NameRolls().compaction(2, 3), Due.NOT_FOUND);
    }

    private static void tagsThatStillStand() {
        NameRolls x = Due.rolls("a", "b", "c");
        x.compact(0);
        x.release(Due.tag(1, 0, 1));
        due.is("two of three stand", x.compaction(0, 3), 2);
        x.acquire(Due.name("b"));
        due.is("the name again, with another year", x.compaction(0, 3), 2);
        x.compact(1);
        due.is("the first one", x.compaction(1, 3), 2);
        due.is("the second one", x.compaction(0, 3), 3);
        x.release(x.numberOf(0, 4));
        due.is("the first one", x.compaction(1, 3), 1);
        due.is("the second one", x.compaction(0, 3), 2);
        due.is("names then", x.compaction(0, 1), 3);
    }

    private static void count() {
        NameRolls x = Due.rolls("a", "b", "c", "d");
        x.use(2);
        x.put(0, 0, 2);
        x.put(0, 1, 1);
        x.release(3);
        x.release(0);
        x.acquire(26);
        x.release(100);
        Due.write(x, "+a;");
        int[] want = {2, 5, 2, 0, 3, 1, 5, 3, 0, 4, 3};
        for (int what = 0; what <= 10; what++) {
            due.is("count(" + what + ")", x.count(what), want[what]);
        }
        x.compact(0);
        due.is("count(0)", x.count(0), 2);
        due.is("count(3)", x.count(3), 1);
        due.is("count(4)", x.count(4), 2);
        due.is("count(5)", x.count(5), 0);
        due.is("count(6)", x.count(6), 5);
        due.is("count(7)", x.count(7), 3);
        for (int kept = 1; kept <= 5; kept++) {
            due.is("count(8)", x.count(8), Math.min(kept, 3));
            due.is("count(3)", x.count(3), kept);
            x.compact(0);
        }
        due.is("count(-1)", x.count(-1), Due.INVALID);
        due.is("count(11)", x.count(11), Due.INVALID);
        due.is("count(min)", x.count(Integer.MIN_VALUE), Due.INVALID);
    }

    private static void viewsAreNoChanges() {
        NameRolls x = Due.rolls("a", "b");
        x.follow(0);
        x.nameOf(0);
        x.why(0);
        x.cellOf(0, 0);
        x.numberOf(0, 0);
        x.find(1);
        x.nameAt(1, 1);
        x.beginning(1);
        x.behind(1);
        x.wouldBe(1, 1);
        x.compaction(0, 0);
        x.count(0);
        x.type('+');
        x.fault(0);
        x.clearText();
        due.is("states", x.count(9), 2);
    }
}
