/** The terms "Epochs and tags" and "Compactions", sentence by sentence. */
final class EpochSentences {
    private static final String EPOCHS = "Epochs and tags";
    private static final String COMPACTIONS = "Compactions";

    private EpochSentences() { }

    static void tell(Sentences s) {
        s.tell(EPOCHS, "The epoch is 0 at first, and becomes greater by 1 by each compaction.",
            EpochSentences::epoch);
        s.tell(EPOCHS, "A tag is told as 1000000 * epoch + 100 * year + number.",
            EpochSentences::tagAsNumber);
        s.tell(EPOCHS, "It is given out for a number with a name, with the year of the number and "
            + "the epoch as they are then.", EpochSentences::givenOut);
        s.tell(EPOCHS, "A tag is followed so: as long as its epoch is less than the present one, "
            + "it becomes the tag that the compaction by which its epoch ended has given to this "
            + "number with this year:", EpochSentences::followedByEach);
        s.tell(EPOCHS, "that of the new number, with its year behind this compaction, and the next "
            + "epoch.", EpochSentences::newNumberAndYear);
        s.tell(EPOCHS, "Only the latest 3 compactions are kept.", EpochSentences::threeKept);
        s.tell(EPOCHS, "A tag stands if it can be followed to the present epoch, and there its "
            + "number has a name and its year.", EpochSentences::stands);
        s.tell(EPOCHS, "Otherwise it is stale; the reason is the first of these that applies:",
            EpochSentences::firstReason);
        s.tell(EPOCHS, "1 it is no tag (it is negative,", EpochSentences::negative);
        s.tell(EPOCHS, "its number is above 39,", EpochSentences::above39);
        s.tell(EPOCHS, "or its epoch is greater than the present one);",
            EpochSentences::laterEpoch);
        s.tell(EPOCHS, "2 its epoch ended by a compaction that is not kept any more;",
            EpochSentences::notKept);
        s.tell(EPOCHS, "3 at one of the compactions through which it is followed its number had no "
            + "name then,", EpochSentences::noNameThen);
        s.tell(EPOCHS, "or another year; 4", EpochSentences::anotherYearThen);
        s.tell(EPOCHS, "4 in the present epoch its number has no name,", EpochSentences::noNameNow);
        s.tell(EPOCHS, "or another year.", EpochSentences::anotherYearNow);

        s.tell(COMPACTIONS, "By a compaction all numbers with a name are given anew, from 0 on, in "
            + "an order:", EpochSentences::givenAnew);
        s.tell(COMPACTIONS, "by rule 0 by their numbers,", EpochSentences::byNumbers);
        s.tell(COMPACTIONS, "by rule 1 by the order of their names,", EpochSentences::byNames);
        s.tell(COMPACTIONS, "by rule 2 by how many users they have, the most first",
            EpochSentences::byUsers);
        s.tell(COMPACTIONS, "(of several by their numbers).", EpochSentences::asManyUsers);
        s.tell(COMPACTIONS, "The users go with the names,", EpochSentences::usersGo);
        s.tell(COMPACTIONS, "and cells of tables have the new numbers.",
            EpochSentences::cellsNew);
        s.tell(COMPACTIONS, "The year of each number that has another name than before,",
            EpochSentences::anotherName);
        s.tell(COMPACTIONS, "or none and had one, or has one and had none, becomes greater by 1.",
            EpochSentences::noneAndOne);
    }

    private static void epoch(Due due) {
        NameRolls x = Due.rolls("b", "a");
        due.is("epoch", x.count(3), 0);
        for (int epoch = 1; epoch <= 7; epoch++) {
            x.compact(epoch % 3);
            due.is("epoch", x.count(3), epoch);
        }
        Due.write(x, "!0;!1;");
        x.play();
        due.is("epoch, two orders", x.count(3), 9);
    }

    private static void tagAsNumber(Due due) {
        NameRolls x = Due.full();
        due.is("tag of 39", x.numberOf(39, 4), 39);
        x.release(39);
        due.is("acquire, year 1", x.acquire(1), 139);
        x.compact(0);
        x.compact(0);
        due.is("tag of 39", x.numberOf(39, 4), 2000139);
        due.is("tag of 38", x.numberOf(38, 4), 2000038);
        NameRolls last = Due.lastEpoch();
        last.release(999000000);
        last.release(999000001);
        due.is("acquire, epoch 999", last.acquire(26), 999000100);
    }

    private static void givenOut(Due due) {
        NameRolls x = Due.rolls("c", "a");
        x.put(0, 0, 1);
        x.compact(1);
        due.is("acquire c", x.acquire(3), 1000101);
        due.is("acquire d", x.acquire(4), 1000002);
        due.is("cellOf(0, 0)", x.cellOf(0, 0), 1000100);
        due.is("numberOf(1, 4)", x.numberOf(1, 4), 1000101);
        due.is("numberOf(3, 4), no name", x.numberOf(3, 4), Due.NOT_FOUND);
        due.is("follow(0)", x.follow(0), 1000101);
        x.release(1000002);
        due.is("acquire e, the next year", x.acquire(5), 1000102);
    }

    /** c, b and a, by names in epoch 1, by users in epoch 3: c has 3 users, b has 2. */
    private static NameRolls threeTimes() {
        NameRolls x = Due.rolls("c", "b", "a");
        x.use(0);
        x.use(0);
        x.use(1);
        x.compact(1);
        x.compact(1);
        x.compact(2);
        return x;
    }

    private static void followedByEach(Due due) {
        NameRolls x = threeTimes();
        int[][] ways = {{0, 1000102, 2000102, 3000200}, {1, 1000001, 2000001, 3000001},
            {2, 1000100, 2000100, 3000202}};
        for (int[] way : ways) {
            for (int epoch = 0; epoch < 4; epoch++) {
                due.is("follow(" + way[epoch] + ")", x.follow(way[epoch]), way[3]);
            }
        }
        due.is("nameOf(0)", x.nameOf(0), 3);
        due.is("follow(100), a year that it had not", x.follow(100), Due.STALE);
        due.is("follow(1000002), a year that it had not", x.follow(1000002), Due.STALE);
    }

    private static void newNumberAndYear(Due due) {
        NameRolls x = Due.rolls("d", "c", "b", "a");
        x.release(2);
        x.acquire(2);
        x.release(102);
        x.acquire(2);
        x.compact(1);
        due.is("follow(0)", x.follow(0), 1000103);
        due.is("follow(1), now on a number with year 3", x.follow(1), 1000302);
        due.is("follow(202), from year 2 to year 1", x.follow(202), 1000101);
        due.is("follow(3)", x.follow(3), 1000100);
    }

    private static void threeKept(Due due) {
        NameRolls x = Due.rolls("a");
        for (int epoch = 1; epoch <= 8; epoch++) {
            x.compact(0);
            for (int from = 0; from <= epoch; from++) {
                int want = epoch - from > 3 ? 2 : 0;
                due.is("why, from epoch " + from + " to " + epoch, x.why(1000000 * from), want);
            }
            due.is("compactions kept", x.count(8), Math.min(3, epoch));
        }
    }

    private static void stands(Due due) {
        NameRolls x = Due.rolls("b", "a");
        due.is("why(0)", x.why(0), 0);
        x.compact(1);
        due.is("why(0), followed", x.why(0), 0);
        due.is("why(1000101), of now", x.why(1000101), 0);
        due.is("use(0)", x.use(0), 2);
        x.compact(2);
        x.compact(0);
        due.is("why(0), followed thrice", x.why(0), 0);
        due.is("follow(0)", x.follow(0), 3000200);
        due.is("follow(1000101)", x.follow(1000101), 3000200);
        x.release(0);
        x.release(0);
        due.is("why(0), no name", x.why(0), 4);
        x.acquire(2);
        due.is("why(0), another year", x.why(0), 4);
    }

    private static void firstReason(Due due) {
        NameRolls x = Due.rolls("a", "b");
        due.is("why(-1), its number -1", x.why(-1), 1);
        due.is("why(2), 4 alone", x.why(2), 4);
        x.release(1);
        x.compact(0);
        due.is("why(1), 3 and 4", x.why(1), 3);
        due.is("why(40), 1 and 3", x.why(40), 1);
        due.is("why(0), none", x.why(0), 0);
        x.compact(0);
        x.compact(0);
        x.compact(0);
        due.is("why(1), 2 and 3", x.why(1), 2);
        due.is("why(40), 1 and 2", x.why(40), 1);
        due.is("why(99), 1 and 2", x.why(99), 1);
        due.is("why(5000040), 1 twice", x.why(5000040), 1);
    }

    private static void negative(Due due) {
        NameRolls x = Due.rolls("a", "b");
        int[] none = {-1, -2, -40, -99, -100, -101, -1000000, -1000001, -999999, -2000000000,
            Integer.MIN_VALUE, Integer.MIN_VALUE + 1};
        for (int tag : none) {
            due.is("why(" + tag + ")", x.why(tag), 1);
        }
        x.compact(0);
        due.is("why(-1000000)", x.why(-1000000), 1);
        due.is("why(-1), epoch 1", x.why(-1), 1);
        due.is("why(0)", x.why(0), 0);
    }

    private static void above39(Due due) {
        NameRolls x = Due.full();
        due.is("why(39)", x.why(39), 0);
        due.is("why(139)", x.why(139), 4);
        int[] none = {40, 41, 99, 140, 199, 999940, 999999};
        for (int tag : none) {
            due.is("why(" + tag + ")", x.why(tag), 1);
        }
        x.compact(0);
        due.is("why(39), the epoch before", x.why(39), 0);
        due.is("why(40), the epoch before", x.why(40), 1);
        due.is("why(1000039)", x.why(1000039), 0);
        due.is("why(1000040)", x.why(1000040), 1);
    }

    private static void laterEpoch(Due due) {
        NameRolls x = Due.rolls("a");
        for (int epoch = 0; epoch < 6; epoch++) {
            due.is("why, of epoch " + epoch, x.why(1000000 * epoch), 0);
            due.is("why, of the next one", x.why(1000000 * epoch + 1000000), 1);
            due.is("why, of a much later one", x.why(2147000000), 1);
            x.compact(0);
        }
        x.undo();
        due.is("why, of an epoch taken back", x.why(6000000), 1);
    }

    private static void notKept(Due due) {
        NameRolls x = Due.rolls("a");
        for (int i = 0; i < 4; i++) {
            due.is("why(0), epoch " + i, x.why(0), 0);
            x.compact(0);
        }
        due.is("why(0), epoch 4", x.why(0), 2);
        due.is("why(1), no name ever", x.why(1), 2);
        due.is("why(100), a year that was not", x.why(100), 2);
        due.is("why(1000000)", x.why(1000000), 0);
        due.is("use(0)", x.use(0), Due.STALE);
        due.is("undo()", x.undo(), 3);
        due.is("why(0), kept again", x.why(0), 0);
        due.is("why(995000000), epoch 999", Due.lastEpoch().why(995000000), 2);
        due.is("why(996000000), epoch 999", Due.lastEpoch().why(996000000), 0);
    }

    private static void noNameThen(Due due) {
        NameRolls x = Due.rolls("a", "b", "c");
        x.release(2);
        x.compact(0);
        x.acquire(3);
        due.is("why(2), no name at the first one", x.why(2), 3);
        due.is("why(102), its year, but no name", x.why(102), 3);
        due.is("why(39)", x.why(39), 3);
        due.is("why(1)", x.why(1), 0);
        x.release(1);
        x.compact(0);
        due.is("why(1), no name at the second one", x.why(1), 3);
        due.is("why(1000001)", x.why(1000001), 3);
        x.release(0);
        x.compact(0);
        due.is("why(0), no name at the third one", x.why(0), 3);
        due.is("why(2000000)", x.why(2000000), 3);
        due.is("why(1000102)", x.why(1000102), 0);
    }

    private static void anotherYearThen(Due due) {
        NameRolls x = Due.rolls("a", "b");
        x.release(1);
        x.acquire(2);
        x.compact(0);
        due.is("why(1), a lower year", x.why(1), 3);
        due.is("why(101)", x.why(101), 0);
        due.is("why(201), a higher year", x.why(201), 3);
        x.release(101);
        x.acquire(2);
        due.is("tag of 1", x.numberOf(1, 4), 1000201);
        x.compact(0);
        due.is("why(101), another year at the second one", x.why(101), 3);
        due.is("why(1000201)", x.why(1000201), 0);
        x.release(1000201);
        x.acquire(2);
        x.compact(0);
        due.is("why(1000201), another year at the second one", x.why(1000201), 3);
        due.is("why(2000201), another year at the first one", x.why(2000201), 3);
        due.is("why(0)", x.why(0), 0);
    }

    private static void noNameNow(Due due) {
        NameRolls x = Due.rolls("b", "a");
        due.is("why(2)", x.why(2), 4);
        due.is("why(39)", x.why(39), 4);
        x.release(1);
        due.is("why(1)", x.why(1), 4);
        due.is("why(101), its year now", x.why(101), 4);
        x.acquire(1);
        x.compact(1);
        due.is("why(101), followed", x.why(101), 0);
        x.release(101);
        due.is("why(101), followed", x.why(101), 4);
        due.is("why(1000200), its year now", x.why(1000200), 4);
    }

    private static void anotherYearNow(Due due) {
        NameRolls x = Due.rolls("a");
        x.release(0);
        x.acquire(1);
        due.is("why(0), a lower year", x.why(0), 4);
        due.is("why(100)", x.why(100), 0);
        due.is("why(200), a higher year", x.why(200), 4);
        due.is("why(999900), the highest year", x.why(999900), 4);
        x.compact(0);
        x.release(100);
        x.acquire(1);
        due.is("why(100), followed", x.why(100), 4);
        due.is("why(1000100)", x.why(1000100), 4);
        due.is("why(1000200)", x.why(1000200), 0);
    }

    private static void givenAnew(Due due) {
        for (int rule = 0; rule < 3; rule++) {
            NameRolls x = Due.full();
            for (int number = 0; number < 36; number++) {
                x.release(number);
            }
            due.is("compact(" + rule + ")", x.compact(rule), 4);
            for (int number = 0; number < 4; number++) {
                due.is("name of " + number, x.numberOf(number, 0), Due.nth(36 + number));
            }
            due.is("names", x.count(0), 4);
            due.is("highest number, plus 1", x.count(4), 4);
            due.is("compact(" + rule + ") without names", new NameRolls().compact(rule), 0);
        }
    }

    private static void isRoll(Due due, NameRolls x, String names) {
        for (int i = 0; i < names.length(); i++) {
            due.is("name of " + i, x.numberOf(i, 0), names.charAt(i) - 'a' + 1);
        }
        due.is("names", x.count(0), names.length());
    }

    private static void byNumbers(Due due) {
        NameRolls x = Due.rolls("e", "b", "d", "a", "c");
        x.use(3);
        x.release(0);
        x.release(2);
        due.is("compact(0)", x.compact(0), 3);
        isRoll(due, x, "bac");
    }

    private static void byNames(Due due) {
        NameRolls x = Due.rolls("e", "b", "d", "a", "c");
        x.use(0);
        due.is("compact(1)", x.compact(1), 4);
        isRoll(due, x, "abcde");
        NameRolls full = new NameRolls();
        for (int i = 39; i >= 0; i--) {
            full.acquire(Due.nth(i));
        }
        due.is("compact(1), 40 names", full.compact(1), 40);
        for (int i = 0; i < 40; i++) {
            due.is("name of " + i, full.numberOf(i, 0), Due.nth(i));
            due.is("year of " + i, full.numberOf(i, 3), 1);
        }
    }

    private static void byUsers(Due due) {
        NameRolls x = Due.rolls("a", "b", "c", "d", "d", "d", "d", "b", "b", "c");
        due.is("compact(2)", x.compact(2), 2);
        isRoll(due, x, "dbca");
        NameRolls y = Due.rolls("a", "b", "b");
        y.put(0, 0, 0);
        y.put(0, 1, 0);
        due.is("compact(2), cells are users", y.compact(2), 0);
    }

    private static void asManyUsers(Due due) {
        NameRolls x = Due.rolls("d", "b", "e", "a", "c", "a", "e", "c");
        due.is("compact(2)", x.compact(2), 5);
        isRoll(due, x, "eacdb");
        NameRolls y = Due.rolls("c", "b", "a");
        due.is("compact(2), all alike", y.compact(2), 0);
        isRoll(due, y, "cba");
    }

    private static void usersGo(Due due) {
        NameRolls x = Due.rolls("c", "c", "c", "b", "b", "a");
        x.compact(1);
        for (int number = 0; number < 3; number++) {
            due.is("users of " + number, x.numberOf(number, 1), number + 1);
        }
        x.release(1000100);
        x.compact(0);
        due.is("users of 0", x.numberOf(0, 1), 2);
        due.is("users of 1", x.numberOf(1, 1), 3);
        due.is("users of 2, no name", x.numberOf(2, 1), 0);
        due.is("users of all", x.count(1), 5);
    }

    private static void cellsNew(Due due) {
        NameRolls x = Due.rolls("c", "b", "a");
        for (int i = 0; i < 18; i++) {
            x.put(i / 6, i % 6, i % 3);
        }
        x.clear(1, 0);
        x.compact(1);
        for (int i = 0; i < 18; i++) {
            int want = i == 6 ? Due.NOT_FOUND : new int[] {1000102, 1000001, 1000100}[i % 3];
            due.is("cellOf, cell " + i, x.cellOf(i / 6, i % 6), want);
        }
        due.is("cells of 2", x.numberOf(2, 2), 5);
        due.is("clear(0, 0)", x.clear(0, 0), 5);
    }

    private static void anotherName(Due due) {
        NameRolls x = Due.rolls("a", "c", "b", "d");
        x.compact(1);
        int[] years = {0, 1, 1, 0, 0};
        for (int number = 0; number < 5; number++) {
            due.is("year of " + number, x.numberOf(number, 3), years[number]);
        }
        x.compact(1);
        due.is("year of 1, the same name", x.numberOf(1, 3), 1);
    }

    private static void noneAndOne(Due due) {
        NameRolls x = Due.rolls("a", "b", "c", "d");
        x.release(1);
        x.compact(0);
        int[] years = {0, 2, 1, 1, 0};
        for (int number = 0; number < 5; number++) {
            due.is("year of " + number, x.numberOf(number, 3), years[number]);
        }
        x.release(1000102);
        x.compact(0);
        due.is("year of 2, none and none", x.numberOf(2, 3), 2);
        due.is("year of 39", x.numberOf(39, 3), 0);
    }
}
