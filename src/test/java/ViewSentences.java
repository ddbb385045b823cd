/** The promises 12 to 19, sentence by sentence. */
final class ViewSentences {
    private static final int MAX = Integer.MAX_VALUE;
    private static final int MIN = Integer.MIN_VALUE;
    private static final int[] NO_NAMES = {0, -1, -28, 27, 54, 702, 729, 730, 387420489, 402321277,
        MAX, MIN};

    private ViewSentences() { }

    static void tell(Sentences s) {
        numberOf(s);
        find(s);
        nameAt(s);
        beginningAndBehind(s);
        wouldBeAndCompaction(s);
        count(s);
    }

    private static void numberOf(Sentences s) {
        String p = "Promise 12";
        s.tell(p, "Returns something of a number.", ViewSentences::somethingOfNumber);
        s.tell(p, "number: 0 to 39", ViewSentences::allNumbers);
        s.tell(p, "what: 0: its name;", due -> isOfNumber(due, 0, 2, 1, 3));
        s.tell(p, "1: its users;", due -> isOfNumber(due, 1, 4, 1, 2));
        s.tell(p, "2: how many of these are cells of tables;",
            due -> isOfNumber(due, 2, 2, 0, 0));
        s.tell(p, "3: its year;", due -> isOfNumber(due, 3, 0, 1, 1));
        s.tell(p, "4: a tag of it", due -> isOfNumber(due, 4, 1000000, 1000101, 1000102));
        s.tell(p, "Returns the number;", ViewSentences::somethingOfNumber);
        s.tell(p, "INVALID_ARGUMENT if an argument is out of range;",
            ViewSentences::numberOfInvalid);
        s.tell(p, "NOT_FOUND for 0 and 4 if it has no name.", ViewSentences::numberOfNoName);
    }

    private static void find(Sentences s) {
        String p = "Promise 13";
        s.tell(p, "Returns the number of a name. name: the name Returns its number;",
            ViewSentences::finds);
        s.tell(p, "INVALID_ARGUMENT if it is no name;", ViewSentences::findNoName);
        s.tell(p, "NOT_FOUND if it has none.", ViewSentences::findNone);
    }

    private static void nameAt(Sentences s) {
        String p = "Promise 14";
        s.tell(p, "Returns a name that has a number, by an order.", ViewSentences::nameByOrder);
        s.tell(p, "rule: 0 to 2, as for compactions", ViewSentences::nameAsCompacted);
        s.tell(p, "place: 0 for the first one, and so on Returns the name;",
            ViewSentences::places);
        s.tell(p, "INVALID_ARGUMENT if rule is out of range", ViewSentences::nameAtNoRule);
        s.tell(p, "or place is negative;", ViewSentences::nameAtNegative);
        s.tell(p, "NOT_FOUND if there are not so many.", ViewSentences::nameAtNotSoMany);
    }

    private static void beginningAndBehind(Sentences s) {
        String p = "Promise 15";
        s.tell(p, "Counts the names with numbers that begin with the letters of a name.",
            ViewSentences::beginsWith);
        s.tell(p, "name: the name, which need not have a number", ViewSentences::beginsWithNone);
        s.tell(p, "Returns how many, this one too, if it has a number;",
            ViewSentences::thisOneToo);
        s.tell(p, "INVALID_ARGUMENT if it is no name.", ViewSentences::beginningNoName);
        p = "Promise 16";
        s.tell(p, "Returns the first name with a number that is behind a name in the order of "
            + "names.", ViewSentences::firstBehind);
        s.tell(p, "name: the name, which need not have a number Returns that name;",
            ViewSentences::behindNone);
        s.tell(p, "INVALID_ARGUMENT if it is no name;", ViewSentences::behindNoName);
        s.tell(p, "NOT_FOUND if there is none.", ViewSentences::noneBehind);
    }

    private static void wouldBeAndCompaction(Sentences s) {
        String p = "Promise 17";
        s.tell(p, "Tells which number a number would become by a compaction now. number: 0 to 39 "
            + "rule: 0 to 2", ViewSentences::wouldBecome);
        s.tell(p, "Returns the number then;", ViewSentences::wouldBeFull);
        s.tell(p, "INVALID_ARGUMENT if an argument is out of range;",
            ViewSentences::wouldBeInvalid);
        s.tell(p, "NOT_FOUND if it has no name.", ViewSentences::wouldBeNoName);
        p = "Promise 18";
        s.tell(p, "Returns something of a compaction that is kept.",
            ViewSentences::keptCompactions);
        s.tell(p, "index: 0 for the latest one, 1 and 2 for those before",
            ViewSentences::indexes);
        s.tell(p, "what: 0: its rule;", ViewSentences::ruleOf);
        s.tell(p, "1: how many names had numbers;", ViewSentences::namesThen);
        s.tell(p, "2: how many of these got another number;", ViewSentences::movedThen);
        s.tell(p, "3: how many tags of the epoch that ended by it, of those that stood then, would "
            + "stand now, if each was followed Returns the number;", ViewSentences::wouldStand);
        s.tell(p, "INVALID_ARGUMENT if an argument is out of range;",
            ViewSentences::compactionInvalid);
        s.tell(p, "NOT_FOUND if there were not so many compactions.",
            ViewSentences::notSoManyCompactions);
    }

    private static void count(Sentences s) {
        String p = "Promise 19";
        s.tell(p, "Returns a number.", ViewSentences::newCounts);
        s.tell(p, "what: 0: names that have numbers;", ViewSentences::names);
        s.tell(p, "1: users of all;", ViewSentences::users);
        s.tell(p, "2: cells of tables that are not empty;", ViewSentences::cells);
        s.tell(p, "3: the epoch;", ViewSentences::epochs);
        s.tell(p, "4: the highest number with a name, plus 1;", ViewSentences::highest);
        s.tell(p, "5: numbers without a name below it;", ViewSentences::gaps);
        s.tell(p, "6: names that got a number so far", ViewSentences::gained);
        s.tell(p, "(a name that got one again, too);", ViewSentences::gainedAgain);
        s.tell(p, "7: numbers that lost their names by the last user so far;",
            ViewSentences::lost);
        s.tell(p, "8: compactions that are kept;", ViewSentences::kept);
        s.tell(p, "9: states in the history;", ViewSentences::states);
        s.tell(p, "10: the length of the text Returns the number;", ViewSentences::textLength);
        s.tell(p, "INVALID_ARGUMENT if what is out of range.", ViewSentences::countInvalid);
    }

    /** In epoch 1, b at 0 with two cells, a at 1, c at 2; 3 has lost its name. */
    private static NameRolls three() {
        NameRolls x = Due.rolls("b", "d", "a", "c");
        x.release(1);
        x.use(0);
        x.use(3);
        x.put(0, 0, 0);
        x.put(2, 5, 0);
        x.undo();
        x.put(1, 3, 0);
        x.compact(0);
        return x;
    }

    private static void isOfNumber(Due due, int what, int zero, int one, int two) {
        NameRolls x = three();
        int second = what == 3 ? 2 : what == 4 ? 1000201 : one;
        due.is("numberOf(0, " + what + ")", x.numberOf(0, what), zero);
        due.is("numberOf(1, " + what + ")", x.numberOf(1, what), second);
        due.is("numberOf(2, " + what + ")", x.numberOf(2, what), two);
        int none = what == 3 ? 1 : what == 0 || what == 4 ? Due.NOT_FOUND : 0;
        due.is("numberOf(3, " + what + ")", x.numberOf(3, what), none);
    }

    private static void somethingOfNumber(Due due) {
        NameRolls x = Due.crowded();
        x.release(0);
        x.put(0, 0, 0);
        due.is("numberOf(0, 1)", x.numberOf(0, 1), 999);
        due.is("numberOf(0, 2)", x.numberOf(0, 2), 1);
        due.is("numberOf(1, 1)", x.numberOf(1, 1), 1);
        due.is("numberOf(0, 0)", x.numberOf(0, 0), 1);
        due.is("numberOf(39, 3)", x.numberOf(39, 3), 0);
        due.is("it is no change", x.count(9), 4);
    }

    private static void allNumbers(Due due) {
        NameRolls x = Due.full();
        for (int number = 0; number < 40; number++) {
            due.is("numberOf(" + number + ", 0)", x.numberOf(number, 0), Due.nth(number));
            due.is("numberOf(" + number + ", 1)", x.numberOf(number, 1), 1);
            due.is("numberOf(" + number + ", 4)", x.numberOf(number, 4), number);
        }
    }

    private static void numberOfInvalid(Due due) {
        NameRolls x = Due.full();
        int[] none = {-1, 40, 41, 100, MAX, MIN};
        for (int number : none) {
            for (int what = 0; what < 5; what++) {
                String call = "numberOf(" + number + ", " + what + ")";
                due.is(call, x.numberOf(number, what), Due.INVALID);
            }
        }
        int[] nothing = {-1, 5, 6, MAX, MIN};
        for (int what : nothing) {
            due.is("numberOf(0, " + what + ")", x.numberOf(0, what), Due.INVALID);
            due.is("numberOf(39, " + what + ")", x.numberOf(39, what), Due.INVALID);
        }
    }

    private static void numberOfNoName(Due due) {
        NameRolls x = Due.rolls("a", "b");
        x.release(0);
        int[] none = {0, 2, 39};
        for (int number : none) {
            String call = "numberOf(" + number + ", ";
            due.is(call + "0)", x.numberOf(number, 0), Due.NOT_FOUND);
            due.is(call + "4)", x.numberOf(number, 4), Due.NOT_FOUND);
            due.is(call + "1)", x.numberOf(number, 1), 0);
            due.is(call + "2)", x.numberOf(number, 2), 0);
            due.is(call + "3)", x.numberOf(number, 3), number == 0 ? 1 : 0);
        }
    }

    private static void finds(Due due) {
        NameRolls x = Due.full();
        for (int i = 0; i < 40; i++) {
            due.is("find, name " + i, x.find(Due.nth(i)), i);
        }
        x.release(0);
        x.compact(0);
        due.is("find, name 39", x.find(Due.nth(39)), 38);
        due.is("find, name 1", x.find(Due.nth(1)), 0);
    }

    private static void findNoName(Due due) {
        NameRolls x = Due.rolls("a");
        for (int name : NO_NAMES) {
            due.is("find(" + name + ")", x.find(name), Due.INVALID);
        }
    }

    private static void findNone(Due due) {
        NameRolls x = Due.rolls("ab", "b");
        due.is("find a", x.find(1), Due.NOT_FOUND);
        due.is("find abc", x.find(786), Due.NOT_FOUND);
        due.is("find zzzzzz", x.find(387420488), Due.NOT_FOUND);
        x.release(1);
        due.is("find b, given back", x.find(2), Due.NOT_FOUND);
        due.is("find a of a new one", new NameRolls().find(1), Due.NOT_FOUND);
        due.is("find a, 40 names", Due.full().find(1), Due.NOT_FOUND);
    }

    private static void nameByOrder(Due due) {
        NameRolls x = Due.rolls("c", "e", "b", "a", "b");
        x.release(1);
        String[] orders = {"cba", "abc", "bca"};
        for (int rule = 0; rule < 3; rule++) {
            for (int place = 0; place < 3; place++) {
                int want = orders[rule].charAt(place) - 'a' + 1;
                due.is("nameAt(" + rule + ", " + place + ")", x.nameAt(rule, place), want);
            }
        }
        due.is("epoch", x.count(3), 0);
    }

    /** Ten names with various users, and gaps. */
    private static NameRolls ten() {
        NameRolls x = Due.rolls("zz", "q", "b", "ba", "az", "z", "a", "x", "zza", "aa", "y", "ab",
            "q", "a", "a", "az", "aa");
        x.release(2);
        x.release(7);
        x.put(0, 0, 8);
        return x;
    }

    private static void nameAsCompacted(Due due) {
        for (int rule = 0; rule < 3; rule++) {
            NameRolls x = ten();
            NameRolls y = ten();
            y.compact(rule);
            for (int place = 0; place < 10; place++) {
                String call = "nameAt(" + rule + ", " + place + ")";
                due.is(call, x.nameAt(rule, place), y.numberOf(place, 0));
            }
        }
    }

    private static void places(Due due) {
        NameRolls x = new NameRolls();
        for (int i = 39; i >= 0; i--) {
            x.acquire(Due.nth(i));
        }
        x.use(39);
        for (int place = 0; place < 40; place++) {
            due.is("nameAt(0, " + place + ")", x.nameAt(0, place), Due.nth(39 - place));
            due.is("nameAt(1, " + place + ")", x.nameAt(1, place), Due.nth(place));
            int want = place == 0 ? Due.nth(0) : Due.nth(40 - place);
            due.is("nameAt(2, " + place + ")", x.nameAt(2, place), want);
        }
    }

    private static void nameAtNoRule(Due due) {
        NameRolls x = Due.rolls("a");
        int[] none = {-1, 3, 4, MAX, MIN};
        for (int rule : none) {
            due.is("nameAt(" + rule + ", 0)", x.nameAt(rule, 0), Due.INVALID);
            due.is("nameAt(" + rule + ", 1)", x.nameAt(rule, 1), Due.INVALID);
        }
    }

    private static void nameAtNegative(Due due) {
        NameRolls x = Due.rolls("a");
        for (int rule = 0; rule < 3; rule++) {
            due.is("nameAt(" + rule + ", -1)", x.nameAt(rule, -1), Due.INVALID);
            due.is("nameAt(" + rule + ", min)", x.nameAt(rule, MIN), Due.INVALID);
            due.is("nameAt(" + rule + ", 0)", x.nameAt(rule, 0), 1);
        }
        due.is("nameAt(0, -1) of none", new NameRolls().nameAt(0, -1), Due.INVALID);
    }

    private static void nameAtNotSoMany(Due due) {
        NameRolls x = Due.rolls("a", "b");
        x.release(0);
        NameRolls full = Due.full();
        for (int rule = 0; rule < 3; rule++) {
            due.is("nameAt(" + rule + ", 0)", x.nameAt(rule, 0), 2);
            int[] far = {1, 2, 39, 40, 41, MAX};
            for (int place : far) {
                due.is("nameAt(" + rule + ", " + place + ")", x.nameAt(rule, place), Due.NOT_FOUND);
            }
            due.is("nameAt(" + rule + ", 39)", full.nameAt(rule, 39), Due.nth(39));
            due.is("nameAt(" + rule + ", 40)", full.nameAt(rule, 40), Due.NOT_FOUND);
            due.is("of none", new NameRolls().nameAt(rule, 0), Due.NOT_FOUND);
        }
    }

    private static void beginsWith(Due due) {
        NameRolls x = Due.rolls("abcdef", "abcdeg", "abcdf", "abce", "abd", "ac", "b", "bab", "aa");
        due.is("beginning a", x.beginning(Due.name("a")), 7);
        due.is("beginning ab", x.beginning(Due.name("ab")), 5);
        due.is("beginning abc", x.beginning(Due.name("abc")), 4);
        due.is("beginning abcd", x.beginning(Due.name("abcd")), 3);
        due.is("beginning abcde", x.beginning(Due.name("abcde")), 2);
        due.is("beginning abcdef", x.beginning(Due.name("abcdef")), 1);
        due.is("beginning b", x.beginning(Due.name("b")), 2);
        due.is("beginning ba", x.beginning(Due.name("ba")), 1);
        x.release(0);
        due.is("beginning a, one less", x.beginning(Due.name("a")), 6);
        due.is("beginning a, 26 of 40", Due.full().beginning(1), 26);
        due.is("beginning b, 14 of 40", Due.full().beginning(2), 14);
    }

    private static void beginsWithNone(Due due) {
        NameRolls x = Due.rolls("abc", "abd");
        due.is("beginning ab", x.beginning(29), 2);
        due.is("beginning a", x.beginning(1), 2);
        due.is("beginning c", x.beginning(3), 0);
        due.is("beginning b, in the middle alone", x.beginning(2), 0);
        due.is("beginning abcd", x.beginning(Due.name("abcd")), 0);
        due.is("beginning zzzzzz", x.beginning(387420488), 0);
        due.is("beginning a of none", new NameRolls().beginning(1), 0);
    }

    private static void thisOneToo(Due due) {
        NameRolls x = Due.rolls("a", "ab", "abcdef", "z");
        due.is("beginning z", x.beginning(26), 1);
        due.is("beginning a", x.beginning(1), 3);
        due.is("beginning ab", x.beginning(29), 2);
        due.is("beginning abcdef", x.beginning(Due.name("abcdef")), 1);
        x.release(1);
        due.is("beginning ab, without a number", x.beginning(29), 1);
        x.release(3);
        due.is("beginning z, without a number", x.beginning(26), 0);
    }

    private static void beginningNoName(Due due) {
        NameRolls x = Due.rolls("a", "ab", "aab");
        for (int name : NO_NAMES) {
            due.is("beginning(" + name + ")", x.beginning(name), Due.INVALID);
        }
    }

    private static void firstBehind(Due due) {
        NameRolls x = Due.rolls("z", "b", "abc", "aaz", "ab", "zz");
        String[] order = {"aaz", "ab", "abc", "b", "z", "zz"};
        for (int i = 0; i + 1 < order.length; i++) {
            int want = Due.name(order[i + 1]);
            due.is("behind " + order[i], x.behind(Due.name(order[i])), want);
        }
        x.release(4);
        due.is("behind aaz, ab given back", x.behind(Due.name("aaz")), Due.name("abc"));
        for (int i = 0; i < 39; i++) {
            due.is("behind, of 40", Due.full().behind(Due.nth(i)), Due.nth(i + 1));
        }
    }

    private static void behindNone(Due due) {
        NameRolls x = Due.rolls("z", "b", "ab");
        due.is("behind a", x.behind(1), 29);
        due.is("behind aazzzz", x.behind(Due.name("aazzzz")), 29);
        due.is("behind aba", x.behind(Due.name("aba")), 2);
        due.is("behind azzzzz", x.behind(Due.name("azzzzz")), 2);
        due.is("behind ba", x.behind(Due.name("ba")), 26);
        due.is("behind yzzzzz", x.behind(Due.name("yzzzzz")), 26);
    }

    private static void behindNoName(Due due) {
        NameRolls x = Due.rolls("z", "zzzzzz");
        for (int name : NO_NAMES) {
            due.is("behind(" + name + ")", x.behind(name), Due.INVALID);
        }
    }

    private static void noneBehind(Due due) {
        NameRolls x = Due.rolls("z", "b");
        due.is("behind z", x.behind(26), Due.NOT_FOUND);
        due.is("behind za", x.behind(Due.name("za")), Due.NOT_FOUND);
        due.is("behind zzzzzz", x.behind(387420488), Due.NOT_FOUND);
        x.release(0);
        due.is("behind b, z given back", x.behind(2), Due.NOT_FOUND);
        due.is("behind a of none", new NameRolls().behind(1), Due.NOT_FOUND);
        due.is("behind bn, of 40", Due.full().behind(Due.nth(39)), Due.NOT_FOUND);
    }

    private static void wouldBecome(Due due) {
        for (int rule = 0; rule < 3; rule++) {
            NameRolls x = ten();
            NameRolls y = ten();
            y.compact(rule);
            for (int number = 0; number < 12; number++) {
                int name = x.numberOf(number, 0);
                int want = name < 0 ? Due.NOT_FOUND : y.find(name);
                String call = "wouldBe(" + number + ", " + rule + ")";
                due.is(call, x.wouldBe(number, rule), want);
            }
            due.is("epoch", x.count(3), 0);
            due.is("find zz", x.find(Due.name("zz")), 0);
        }
    }

    private static void wouldBeFull(Due due) {
        NameRolls x = new NameRolls();
        for (int i = 39; i >= 0; i--) {
            x.acquire(Due.nth(i));
        }
        x.use(39);
        for (int number = 0; number < 40; number++) {
            due.is("wouldBe(" + number + ", 0)", x.wouldBe(number, 0), number);
            due.is("wouldBe(" + number + ", 1)", x.wouldBe(number, 1), 39 - number);
            int want = (number + 1) % 40;
            due.is("wouldBe(" + number + ", 2)", x.wouldBe(number, 2), want);
        }
        NameRolls last = Due.lastEpoch();
        due.is("wouldBe(0, 1), the last epoch", last.wouldBe(0, 1), 1);
    }

    private static void wouldBeInvalid(Due due) {
        NameRolls x = Due.full();
        int[] none = {-1, 40, MAX, MIN};
        int[] noRule = {-1, 3, MAX, MIN};
        for (int i = 0; i < 4; i++) {
            for (int rule = 0; rule < 3; rule++) {
                String call = "wouldBe(" + none[i] + ", " + rule + ")";
                due.is(call, x.wouldBe(none[i], rule), Due.INVALID);
            }
            due.is("wouldBe(0, " + noRule[i] + ")", x.wouldBe(0, noRule[i]), Due.INVALID);
            due.is("wouldBe(39, " + noRule[i] + ")", x.wouldBe(39, noRule[i]), Due.INVALID);
        }
    }

    private static void wouldBeNoName(Due due) {
        NameRolls x = Due.rolls("a", "b");
        x.release(0);
        for (int rule = 0; rule < 3; rule++) {
            due.is("wouldBe(0, " + rule + ")", x.wouldBe(0, rule), Due.NOT_FOUND);
            due.is("wouldBe(1, " + rule + ")", x.wouldBe(1, rule), 0);
            due.is("wouldBe(2, " + rule + ")", x.wouldBe(2, rule), Due.NOT_FOUND);
            due.is("wouldBe(39, " + rule + ")", x.wouldBe(39, rule), Due.NOT_FOUND);
        }
    }

    private static void isCompaction(Due due, NameRolls x, int index, int... want) {
        for (int what = 0; what < want.length; what++) {
            String call = "compaction(" + index + ", " + what + ")";
            due.is(call, x.compaction(index, what), want[what]);
        }
    }

    private static void keptCompactions(Due due) {
        NameRolls x = Due.rolls("c", "b", "a");
        x.compact(1);
        isCompaction(due, x, 0, 1, 3, 2, 3);
        x.release(0);
        isCompaction(due, x, 0, 1, 3, 2, 2);
        x.compact(2);
        isCompaction(due, x, 0, 2, 2, 0, 2);
        isCompaction(due, x, 1, 1, 3, 2, 2);
        x.undo();
        isCompaction(due, x, 0, 1, 3, 2, 2);
        due.is("compaction(1, 0), taken back", x.compaction(1, 0), Due.NOT_FOUND);
    }

    private static void indexes(Due due) {
        NameRolls x = Due.rolls("a");
        int[] rules = {2, 0, 1, 1, 0, 2, 0, 1, 2};
        for (int i = 0; i < rules.length; i++) {
            x.compact(rules[i]);
            for (int index = 0; index < 3; index++) {
                int want = index > i ? Due.NOT_FOUND : rules[i - index];
                due.is("compaction(" + index + ", 0)", x.compaction(index, 0), want);
            }
        }
    }

    private static void ruleOf(Due due) {
        NameRolls x = new NameRolls();
        for (int rule = 0; rule < 3; rule++) {
            x.compact(rule);
            due.is("compaction(0, 0)", x.compaction(0, 0), rule);
        }
        Due.write(x, "!2;!1;");
        x.play();
        due.is("compaction(0, 0), an order", x.compaction(0, 0), 1);
        due.is("compaction(1, 0), an order", x.compaction(1, 0), 2);
    }

    private static void namesThen(Due due) {
        NameRolls x = Due.full();
        x.compact(0);
        due.is("compaction(0, 1), 40 names", x.compaction(0, 1), 40);
        x.release(5);
        due.is("compaction(0, 1), then", x.compaction(0, 1), 40);
        x.compact(0);
        due.is("compaction(0, 1)", x.compaction(0, 1), 39);
        due.is("compaction(1, 1)", x.compaction(1, 1), 40);
        NameRolls none = new NameRolls();
        none.compact(0);
        none.acquire(1);
        due.is("compaction(0, 1), no names", none.compaction(0, 1), 0);
    }

    private static void movedThen(Due due) {
        NameRolls x = Due.rolls("d", "b", "c", "a", "e");
        due.is("compact(1)", x.compact(1), x.compaction(0, 2));
        due.is("compaction(0, 2)", x.compaction(0, 2), 2);
        x.release(1);
        x.compact(0);
        due.is("compaction(0, 2)", x.compaction(0, 2), 3);
        x.compact(0);
        due.is("compaction(0, 2)", x.compaction(0, 2), 0);
        due.is("compaction(1, 2)", x.compaction(1, 2), 3);
        due.is("compaction(2, 2)", x.compaction(2, 2), 2);
    }

    private static void wouldStand(Due due) {
        NameRolls x = Due.rolls("a", "b", "c", "d");
        x.release(3);
        x.compact(0);
        due.is("of 3 tags", x.compaction(0, 3), 3);
        x.acquire(4);
        due.is("of 3 tags, a later one is none of them", x.compaction(0, 3), 3);
        x.release(1);
        due.is("2 of 3", x.compaction(0, 3), 2);
        x.acquire(2);
        due.is("2 of 3, the name again with another year", x.compaction(0, 3), 2);
        x.compact(2);
        due.is("4 of 4 of epoch 1", x.compaction(0, 3), 4);
        due.is("2 of 3 of epoch 0", x.compaction(1, 3), 2);
        x.release(0);
        due.is("3 of 4 of epoch 1", x.compaction(0, 3), 3);
        due.is("1 of 3 of epoch 0", x.compaction(1, 3), 1);
        x.compact(1);
        isStanding(due, x, 3, 3, 1);
        Due.write(x, "-b;-c;-d;");
        x.play();
        isStanding(due, x, 0, 0, 0);
        x.undo();
        isStanding(due, x, 3, 3, 1);
    }

    private static void isStanding(Due due, NameRolls x, int latest, int before, int first) {
        due.is("compaction(0, 3)", x.compaction(0, 3), latest);
        due.is("compaction(1, 3)", x.compaction(1, 3), before);
        due.is("compaction(2, 3)", x.compaction(2, 3), first);
    }

    private static void compactionInvalid(Due due) {
        NameRolls x = Due.rolls("a");
        for (int i = 0; i < 4; i++) {
            int[] none = {-1, 3, 4, MAX, MIN};
            for (int index : none) {
                due.is("compaction(" + index + ", 0)", x.compaction(index, 0), Due.INVALID);
            }
            int[] nothing = {-1, 4, 5, MAX, MIN};
            for (int what : nothing) {
                due.is("compaction(0, " + what + ")", x.compaction(0, what), Due.INVALID);
            }
            x.compact(0);
        }
    }

    private static void notSoManyCompactions(Due due) {
        NameRolls x = Due.rolls("a");
        for (int made = 0; made < 4; made++) {
            for (int index = 0; index < 3; index++) {
                for (int what = 0; what < 4; what++) {
                    int got = x.compaction(index, what);
                    String call = "compaction(" + index + ", " + what + ") of " + made;
                    due.is(call, got == Due.NOT_FOUND ? 1 : 0, index < made ? 0 : 1);
                }
            }
            x.compact(0);
        }
    }

    private static void newCounts(Due due) {
        NameRolls x = new NameRolls();
        for (int what = 0; what <= 10; what++) {
            due.is("count(" + what + ")", x.count(what), 0);
        }
        due.is("it is no change", x.undo(), Due.NOT_POSSIBLE);
    }

    private static void names(Due due) {
        NameRolls x = Due.full();
        due.is("count(0), 40 names", x.count(0), 40);
        x.release(0);
        x.release(39);
        x.use(20);
        due.is("count(0), 38 names", x.count(0), 38);
        due.is("count(0), one", Due.rolls("a").count(0), 1);
    }

    private static void users(Due due) {
        NameRolls x = Due.crowded();
        due.is("count(1)", x.count(1), 1000);
        x.put(0, 0, 1);
        due.is("count(1), a cell too", x.count(1), 1001);
        x.release(1);
        x.clear(0, 0);
        due.is("count(1), b given back", x.count(1), 999);
        due.is("count(1), 40 names", Due.full().count(1), 40);
    }

    private static void cells(Due due) {
        NameRolls x = Due.rolls("a", "b");
        for (int i = 0; i < 18; i++) {
            x.put(i / 6, i % 6, i % 2);
            due.is("count(2)", x.count(2), i + 1);
        }
        x.put(0, 0, 1);
        due.is("count(2), put again", x.count(2), 18);
        x.compact(2);
        due.is("count(2), epoch 1", x.count(2), 18);
        x.clear(2, 5);
        due.is("count(2), one emptied", x.count(2), 17);
    }

    private static void epochs(Due due) {
        NameRolls x = new NameRolls();
        x.compact(0);
        due.is("count(3)", x.count(3), 1);
        x.compact(1);
        due.is("count(3)", x.count(3), 2);
        x.undo();
        due.is("count(3), taken back", x.count(3), 1);
        due.is("count(3), the last one", Due.lastEpoch().count(3), 999);
    }

    private static void highest(Due due) {
        NameRolls x = Due.rolls("a");
        due.is("count(4), number 0 alone", x.count(4), 1);
        x.acquire(2);
        x.acquire(3);
        due.is("count(4)", x.count(4), 3);
        x.release(1);
        due.is("count(4), a gap", x.count(4), 3);
        x.release(2);
        due.is("count(4)", x.count(4), 1);
        x.release(0);
        due.is("count(4), none", x.count(4), 0);
        due.is("count(4), 40 names", Due.full().count(4), 40);
    }

    private static void gaps(Due due) {
        NameRolls x = Due.full();
        due.is("count(5), 40 names", x.count(5), 0);
        for (int number = 0; number < 39; number++) {
            x.release(number);
            due.is("count(5)", x.count(5), number + 1);
        }
        x.release(39);
        due.is("count(5), none", x.count(5), 0);
        x.acquire(1);
        due.is("count(5), number 0 alone", x.count(5), 0);
        NameRolls y = Due.rolls("a", "b", "c");
        y.release(2);
        due.is("count(5), those above are none of them", y.count(5), 0);
        y.release(0);
        due.is("count(5)", y.count(5), 1);
        y.compact(0);
        due.is("count(5), epoch 1", y.count(5), 0);
    }

    private static void gained(Due due) {
        NameRolls x = Due.rolls("b", "a", "b");
        due.is("count(6), a user more is none", x.count(6), 2);
        x.acquire(0);
        x.use(0);
        x.put(0, 0, 1);
        x.compact(1);
        due.is("count(6), nor is a compaction", x.count(6), 2);
        Due.write(x, "+c;+d;+a;");
        x.play();
        due.is("count(6), orders", x.count(6), 4);
        x.undo();
        due.is("count(6), taken back", x.count(6), 2);
        NameRolls full = Due.full();
        full.acquire(1);
        due.is("count(6), 40 names", full.count(6), 40);
    }

    private static void gainedAgain(Due due) {
        NameRolls x = new NameRolls();
        for (int i = 1; i <= 50; i++) {
            x.acquire(1);
            x.release(100 * i - 100);
            due.is("count(6)", x.count(6), i);
        }
    }

    private static void lost(Due due) {
        NameRolls x = Due.rolls("a", "b", "c", "d", "e", "a");
        x.release(0);
        due.is("count(7), not the last user", x.count(7), 0);
        x.release(0);
        due.is("count(7), release", x.count(7), 1);
        x.put(0, 0, 1);
        x.release(1);
        x.clear(0, 0);
        due.is("count(7), clear", x.count(7), 2);
        x.put(0, 0, 2);
        x.release(2);
        x.put(0, 0, 3);
        due.is("count(7), put", x.count(7), 3);
        x.compact(0);
        due.is("count(7), a compaction is none", x.count(7), 3);
        Due.write(x, "-e;+q;-q;");
        x.play();
        due.is("count(7), orders", x.count(7), 5);
        x.undo();
        due.is("count(7), taken back", x.count(7), 3);
    }

    private static void kept(Due due) {
        NameRolls x = new NameRolls();
        for (int made = 0; made < 8; made++) {
            due.is("count(8)", x.count(8), Math.min(made, 3));
            x.compact(0);
        }
        for (int i = 0; i < 4; i++) {
            x.undo();
            due.is("count(8), taken back", x.count(8), 3);
        }
        NameRolls y = new NameRolls();
        y.compact(1);
        y.undo();
        due.is("count(8), taken back", y.count(8), 0);
    }

    private static void states(Due due) {
        NameRolls x = new NameRolls();
        for (int change = 1; change <= 6; change++) {
            x.acquire(change);
            due.is("count(9)", x.count(9), Math.min(change, 4));
        }
        x.undo();
        due.is("count(9)", x.count(9), 3);
    }

    private static void textLength(Due due) {
        NameRolls x = new NameRolls();
        for (int length = 1; length <= 60; length++) {
            x.type(' ');
            due.is("count(10)", x.count(10), length);
        }
        x.type(' ');
        due.is("count(10), full", x.count(10), 60);
        x.clearText();
        due.is("count(10), empty", x.count(10), 0);
    }

    private static void countInvalid(Due due) {
        int[] nothing = {-1, 11, 12, MAX, MIN};
        for (int what : nothing) {
            due.is("count(" + what + ")", new NameRolls().count(what), Due.INVALID);
            due.is("count(" + what + ")", Due.full().count(what), Due.INVALID);
        }
    }
}
