/** The term "Changes and errors" and promise 20, sentence by sentence. */
final class ChangeSentences {
    private static final String CHANGES = "Changes and errors";

    private ChangeSentences() { }

    static void tell(Sentences s) {
        s.tell(CHANGES, "The changes are the calls of acquire, use, release, put, clear, compact "
            + "and play", ChangeSentences::changes);
        s.tell(CHANGES, "that return no error.", ChangeSentences::noErrors);
        s.tell(CHANGES, "A history of at most 4 states is kept:", ChangeSentences::fourStates);
        s.tell(CHANGES, "each change records everything before it", ChangeSentences::everything);
        s.tell(CHANGES, "but the text,", ChangeSentences::butTheText);
        s.tell(CHANGES, "and if there are 5 states then, the oldest one is dropped.",
            ChangeSentences::oldestDropped);
        s.tell(CHANGES, "If several errors apply to a call, INVALID_ARGUMENT is returned rather "
            + "than STALE,", ChangeSentences::invalidFirst);
        s.tell(CHANGES, "STALE rather than NOT_POSSIBLE,", ChangeSentences::staleFirst);
        s.tell(CHANGES, "NOT_POSSIBLE rather than LIMIT_REACHED,",
            ChangeSentences::notPossibleFirst);
        s.tell(CHANGES, "and LIMIT_REACHED rather than NOT_FOUND.", ChangeSentences::limitFirst);
        s.tell(CHANGES, "A call that returns an error changes nothing.",
            ChangeSentences::errorsChangeNothing);
        s.tell(CHANGES, "The constants: INVALID_ARGUMENT = -1000001: An argument is out of its "
            + "range, or is no name.", ChangeSentences::invalid);
        s.tell(CHANGES, "NOT_POSSIBLE = -1000002: The call is not possible in the present state.",
            ChangeSentences::notPossible);
        s.tell(CHANGES, "LIMIT_REACHED = -1000003: A fixed limit has been reached.",
            ChangeSentences::limit);
        s.tell(CHANGES, "NOT_FOUND = -1000004: There is no such value.", ChangeSentences::notFound);
        s.tell(CHANGES, "STALE = -1000005: The tag is stale.", ChangeSentences::stale);

        s.tell("Promise 20", "Restores the latest state of the history,",
            ChangeSentences::restores);
        s.tell("Promise 20", "which is removed from it.", ChangeSentences::removed);
        s.tell("Promise 20", "Returns the number of states that are left in the history;",
            ChangeSentences::statesLeft);
        s.tell("Promise 20", "NOT_POSSIBLE if it is empty.", ChangeSentences::emptyHistory);
    }

    /** b, a and c in epoch 2, a cell with b, two compactions kept, two states in the history. */
    private static NameRolls begun() {
        NameRolls x = Due.rolls("d", "b", "a", "c", "b");
        x.put(0, 0, 1);
        x.put(2, 5, 3);
        x.release(0);
        x.compact(1);
        x.compact(2);
        x.undo();
        x.undo();
        x.undo();
        x.undo();
        Due.write(x, "-d;!1;!2;");
        x.play();
        x.clearText();
        x.use(2);
        return x;
    }

    private static final int CALLS = 7;

    /** One call of each kind that is a change; all answers are no errors. */
    private static int change(NameRolls x, int kind) {
        switch (kind) {
            case 0:
                return x.acquire(26);
            case 1:
                return x.use(2);
            case 2:
                return x.release(2);
            case 3:
                return x.put(1, 1, 2);
            case 4:
                x.put(1, 1, 2);
                return x.clear(1, 1);
            case 5:
                return x.compact(0);
            default:
                return x.play();
        }
    }

    private static void changes(Due due) {
        for (int kind = 0; kind < CALLS; kind++) {
            NameRolls x = begun();
            due.is("states", x.count(9), 2);
            due.is("change " + kind + " answers no error", change(x, kind) >= 0 ? 1 : 0, 1);
            due.is("states behind change " + kind, x.count(9), kind == 4 ? 4 : 3);
        }
        NameRolls x = begun();
        x.follow(2);
        x.nameOf(2);
        x.why(2);
        x.cellOf(0, 0);
        x.numberOf(0, 4);
        x.find(1);
        x.nameAt(2, 0);
        x.beginning(1);
        x.behind(1);
        x.wouldBe(0, 1);
        x.compaction(0, 3);
        x.type('+');
        x.fault(0);
        x.clearText();
        due.same("views, typing and clearing are no changes", x, begun());
        due.is("undo() is none", x.undo(), 1);
    }

    private static void noErrors(Due due) {
        NameRolls x = begun();
        x.acquire(0);
        x.use(0);
        x.release(0);
        x.put(3, 0, 2);
        x.put(0, 0, 0);
        x.clear(1, 1);
        x.clear(1, 6);
        x.compact(3);
        x.type('?');
        x.play();
        due.is("states", x.count(9), 2);
        due.is("undo()", x.undo(), 1);
        due.is("undo()", x.undo(), 0);
        due.is("undo()", x.undo(), Due.NOT_POSSIBLE);
        due.is("states", x.count(9), 0);
        x.compact(-1);
        due.is("states", x.count(9), 0);
        NameRolls y = Due.rolls("a");
        y.put(0, 0, 0);
        y.release(0);
        due.is("release(0), a cell alone", y.release(0), Due.NOT_POSSIBLE);
        due.is("states", y.count(9), 3);
    }

    private static void fourStates(Due due) {
        NameRolls x = new NameRolls();
        for (int change = 1; change <= 9; change++) {
            x.acquire(change);
            due.is("states behind change " + change, x.count(9), Math.min(4, change));
        }
        x.undo();
        x.undo();
        x.acquire(26);
        due.is("states", x.count(9), 3);
        x.acquire(26);
        x.acquire(26);
        due.is("states", x.count(9), 4);
    }

    private static void everything(Due due) {
        for (int kind = 0; kind < CALLS; kind++) {
            NameRolls x = begun();
            change(x, kind);
            if (kind == 4) {
                x.undo();
            }
            x.undo();
            due.same("change " + kind + " taken back", x, begun());
        }
        NameRolls x = begun();
        Due.write(x, "!1;=0,0,a;!2;+q;+r;!1;-a;");
        x.play();
        x.undo();
        x.clearText();
        due.same("many orders taken back", x, begun());
        NameRolls y = begun();
        y.compact(1);
        y.compact(2);
        y.undo();
        y.undo();
        due.same("two compactions taken back", y, begun());
        compactionsInPlaceOfOthers(due);
        highestNumberAndLastCell(due);
    }

    private static void highestNumberAndLastCell(Due due) {
        NameRolls x = Due.full();
        x.release(39);
        x.acquire(26);
        x.put(2, 5, 139);
        x.play();
        x.release(139);
        x.clear(2, 5);
        due.is("year of 39", x.numberOf(39, 3), 2);
        for (int i = 0; i < 2; i++) {
            x.undo();
        }
        due.is("name of 39", x.numberOf(39, 0), 26);
        due.is("users of 39", x.numberOf(39, 1), 2);
        due.is("cells of 39", x.numberOf(39, 2), 1);
        due.is("year of 39", x.numberOf(39, 3), 1);
        due.is("cellOf(2, 5)", x.cellOf(2, 5), 139);
        x.compact(0);
        x.compact(1);
        x.undo();
        due.is("follow(139)", x.follow(139), 1000039 + 100);
        due.is("cellOf(2, 5)", x.cellOf(2, 5), 1000139);
    }

    /** A fourth compaction takes the place of the first one, of other names and by another rule. */
    private static void compactionsInPlaceOfOthers(Due due) {
        NameRolls x = threeCompactions();
        Due.write(x, "-a;+d;+e;+e;!2;!1;");
        x.play();
        x.undo();
        x.clearText();
        due.same("four and five compactions, taken back", x, threeCompactions());
        due.is("names at the first one", x.compaction(2, 1), 3);
        due.is("moved by the first one", x.compaction(2, 2), 2);
        due.is("rule of the first one", x.compaction(2, 0), 1);
        due.is("tags of the first one", x.compaction(2, 3), 3);
        due.is("follow(0)", x.follow(0), 3000102);
    }

    private static NameRolls threeCompactions() {
        NameRolls x = new NameRolls();
        Due.write(x, "+c;+b;+a;!1;!0;!0;");
        x.play();
        x.clearText();
        return x;
    }

    private static void butTheText(Due due) {
        NameRolls x = new NameRolls();
        Due.write(x, "+a;");
        x.acquire(2);
        Due.write(x, "+c;+d;");
        x.acquire(5);
        x.type('!');
        x.undo();
        due.is("length", x.count(10), 7);
        due.is("fault(0)", x.fault(0), 6);
        x.undo();
        due.is("length", x.count(10), 7);
        x.clearText();
        x.play();
        Due.write(x, "+z;");
        x.undo();
        due.is("play()", x.play(), 1);
        due.is("find z", x.find(26), 0);
    }

    private static void oldestDropped(Due due) {
        NameRolls x = new NameRolls();
        for (int change = 1; change <= 4; change++) {
            x.acquire(change);
        }
        for (int left = 3; left >= 0; left--) {
            due.is("undo() of 4 changes", x.undo(), left);
            due.is("names", x.count(0), left);
        }
        due.is("undo()", x.undo(), Due.NOT_POSSIBLE);
        for (int change = 1; change <= 6; change++) {
            x.acquire(change);
        }
        for (int left = 3; left >= 0; left--) {
            due.is("undo() of 6 changes", x.undo(), left);
            due.is("names", x.count(0), 2 + left);
        }
        due.is("undo()", x.undo(), Due.NOT_POSSIBLE);
        due.is("names", x.count(0), 2);
    }

    private static void invalidFirst(Due due) {
        NameRolls x = begun();
        due.is("put(3, 0, 0), stale too", x.put(3, 0, 0), Due.INVALID);
        due.is("put(0, -1, -1), stale too", x.put(0, -1, -1), Due.INVALID);
        due.is("clear(3, 9), empty too", x.clear(3, 9), Due.INVALID);
        due.is("cellOf(-1, 0), empty too", x.cellOf(-1, 0), Due.INVALID);
        due.is("numberOf(39, 5), no name too", x.numberOf(39, 5), Due.INVALID);
        due.is("nameAt(3, 39), no place too", x.nameAt(3, 39), Due.INVALID);
        due.is("behind(27), none behind too", x.behind(27), Due.INVALID);
        due.is("wouldBe(39, 3), no name too", x.wouldBe(39, 3), Due.INVALID);
        due.is("compaction(2, 4), not so many too", x.compaction(2, 4), Due.INVALID);
        due.is("fault(3), no fault too", x.fault(3), Due.INVALID);
        due.is("acquire(27), all numbers with names", Due.full().acquire(27), Due.INVALID);
        NameRolls crowded = Due.crowded();
        due.is("put(0, 6, 0), 999 users too", crowded.put(0, 6, 0), Due.INVALID);
        due.is("compact(3) in the last epoch", Due.lastEpoch().compact(3), Due.INVALID);
        Due.write(x, "x".repeat(60));
        due.is("type(127), 60 characters", x.type(127), Due.INVALID);
        due.is("type(31), 60 characters", x.type(31), Due.INVALID);
    }

    private static void staleFirst(Due due) {
        NameRolls x = Due.rolls("a");
        x.put(0, 0, 0);
        x.release(0);
        due.is("release(0), a cell alone", x.release(0), Due.NOT_POSSIBLE);
        due.is("release(100), stale", x.release(100), Due.STALE);
        due.is("release(1), stale", x.release(1), Due.STALE);
        x.compact(0);
        due.is("release(100), stale", x.release(100), Due.STALE);
        due.is("release(0), a cell alone", x.release(0), Due.NOT_POSSIBLE);
        NameRolls crowded = Due.crowded();
        due.is("use(100), 999 users of 0", crowded.use(100), Due.STALE);
        due.is("put(0, 0, 100), 999 users of 0", crowded.put(0, 0, 100), Due.STALE);
    }

    // No call can have both: play with an order that reaches a limit comes nearest.
    private static void notPossibleFirst(Due due) {
        NameRolls x = Due.full();
        Due.write(x, "+a;");
        due.is("play(), no room", x.play(), Due.NOT_POSSIBLE);
        NameRolls crowded = Due.crowded();
        Due.write(crowded, "+a;");
        due.is("play(), 999 users", crowded.play(), Due.NOT_POSSIBLE);
        NameRolls last = Due.lastEpoch();
        Due.write(last, "!0;");
        due.is("play(), epoch 999", last.play(), Due.NOT_POSSIBLE);
    }

    // No call can have both: a new name that has no number, when all have names, comes nearest.
    private static void limitFirst(Due due) {
        NameRolls x = Due.full();
        due.is("find a", x.find(1), Due.NOT_FOUND);
        due.is("acquire a", x.acquire(1), Due.LIMIT);
    }

    private static void errorsChangeNothing(Due due) {
        NameRolls x = begun();
        errors(x);
        due.same("errors of a small state", x, begun());
        due.is("undo()", x.undo(), 1);
        x.undo();
        NameRolls y = begun();
        y.undo();
        y.undo();
        due.is("names", x.count(0), y.count(0));
        due.is("epoch", x.count(3), y.count(3));

        NameRolls full = Due.full();
        full.acquire(1);
        errors(full);
        due.same("errors with 40 names", full, Due.full());
        full.undo();
        due.is("names, the last one taken back", full.count(0), 39);

        NameRolls crowded = Due.crowded();
        crowded.acquire(1);
        crowded.use(0);
        crowded.put(0, 0, 0);
        errors(crowded);
        due.same("errors with 999 users", crowded, Due.crowded());
        crowded.undo();
        due.is("users, the last one taken back", crowded.numberOf(0, 1), 998);

        NameRolls last = Due.lastEpoch();
        last.compact(0);
        errors(last);
        due.same("errors in the last epoch", last, Due.lastEpoch());
        last.undo();
        due.is("epoch, the last one taken back", last.count(3), 998);
        textErrors(due);
    }

    private static void textErrors(Due due) {
        String sixty = "+q;+r;!0;!0;!0;!0;".repeat(3) + "+a;-zz";
        NameRolls x = begun();
        NameRolls y = begun();
        Due.write(x, sixty);
        Due.write(y, sixty);
        x.type('a');
        x.type(127);
        x.type(31);
        x.fault(3);
        x.play();
        x.play();
        due.same("errors with a text of 60 characters", x, y);
    }

    /** Calls that return errors in every state that the tests here make. */
    private static void errors(NameRolls x) {
        int[] tags = {-1, 40, 99900, 2140000000, Integer.MIN_VALUE};
        for (int tag : tags) {
            x.use(tag);
            x.release(tag);
            x.follow(tag);
            x.nameOf(tag);
            x.put(0, 0, tag);
        }
        x.acquire(0);
        x.acquire(27);
        x.put(3, 0, 0);
        x.put(0, 6, 1);
        x.put(-1, 0, 2);
        x.clear(3, 0);
        x.clear(0, -1);
        x.clear(1, 4);
        x.cellOf(1, 4);
        x.compact(3);
        x.compact(-1);
        x.numberOf(40, 1);
        x.numberOf(0, 5);
        x.find(0);
        x.nameAt(0, -1);
        x.nameAt(1, 40);
        x.beginning(27);
        x.behind(-5);
        x.wouldBe(0, 3);
        x.compaction(3, 0);
        x.count(11);
        x.type(127);
        x.type(31);
        x.fault(3);
    }

    private static void invalid(Due due) {
        due.is("INVALID_ARGUMENT", NameRolls.INVALID_ARGUMENT, -1000001);
        due.is("compact(3)", new NameRolls().compact(3), -1000001);
        due.is("acquire(27)", new NameRolls().acquire(27), -1000001);
    }

    private static void notPossible(Due due) {
        due.is("NOT_POSSIBLE", NameRolls.NOT_POSSIBLE, -1000002);
        due.is("undo()", new NameRolls().undo(), -1000002);
        due.is("clear(0, 0)", new NameRolls().clear(0, 0), -1000002);
    }

    private static void limit(Due due) {
        due.is("LIMIT_REACHED", NameRolls.LIMIT_REACHED, -1000003);
        due.is("acquire, the 41st name", Due.full().acquire(1), -1000003);
        due.is("use, the 1000th user", Due.crowded().use(0), -1000003);
        due.is("compact, the epoch 1000", Due.lastEpoch().compact(0), -1000003);
    }

    private static void notFound(Due due) {
        due.is("NOT_FOUND", NameRolls.NOT_FOUND, -1000004);
        due.is("find(1)", new NameRolls().find(1), -1000004);
        due.is("fault(0)", new NameRolls().fault(0), -1000004);
    }

    private static void stale(Due due) {
        due.is("STALE", NameRolls.STALE, -1000005);
        due.is("use(0)", new NameRolls().use(0), -1000005);
        due.is("nameOf(-1)", new NameRolls().nameOf(-1), -1000005);
    }

    private static void restores(Due due) {
        NameRolls x = Due.rolls("a", "b");
        x.release(0);
        due.is("undo()", x.undo(), 2);
        due.is("find a", x.find(1), 0);
        due.is("year of 0", x.numberOf(0, 3), 0);
        due.is("why(0)", x.why(0), 0);
        due.is("numbers that lost their names", x.count(7), 0);
        x.acquire(3);
        due.is("undo()", x.undo(), 2);
        due.is("find c", x.find(3), Due.NOT_FOUND);
        due.is("names that got a number", x.count(6), 2);
        x.put(0, 0, 0);
        x.put(0, 0, 1);
        due.is("undo()", x.undo(), 3);
        due.is("cellOf(0, 0)", x.cellOf(0, 0), 0);
        due.is("users of 1", x.numberOf(1, 1), 1);
        for (int i = 0; i < 5; i++) {
            x.compact(1);
        }
        due.is("why(0)", x.why(0), 2);
        due.is("undo()", x.undo(), 3);
        due.is("undo()", x.undo(), 2);
        due.is("why(0), two compactions taken back", x.why(0), 0);
        due.is("epoch", x.count(3), 3);
    }

    private static void removed(Due due) {
        NameRolls x = Due.rolls("a", "b", "c");
        x.undo();
        due.is("states", x.count(9), 2);
        due.is("names", x.count(0), 2);
        x.undo();
        due.is("names, not the same state again", x.count(0), 1);
        x.acquire(26);
        x.undo();
        due.is("names", x.count(0), 1);
        due.is("find z", x.find(26), Due.NOT_FOUND);
        x.undo();
        due.is("names", x.count(0), 0);
        due.is("states", x.count(9), 0);
    }

    private static void statesLeft(Due due) {
        NameRolls x = Due.rolls("a", "b", "c", "d", "e");
        for (int left = 3; left >= 0; left--) {
            due.is("undo()", x.undo(), left);
            due.is("states", x.count(9), left);
        }
        x.acquire(5);
        x.acquire(6);
        due.is("undo()", x.undo(), 1);
    }

    private static void emptyHistory(Due due) {
        NameRolls x = new NameRolls();
        due.is("undo() of a new one", x.undo(), Due.NOT_POSSIBLE);
        x.type('+');
        x.acquire(0);
        due.is("undo() without a change", x.undo(), Due.NOT_POSSIBLE);
        x.acquire(1);
        x.undo();
        due.is("undo() when all is taken back", x.undo(), Due.NOT_POSSIBLE);
        due.is("names", x.count(0), 0);
        for (int change = 1; change <= 9; change++) {
            x.acquire(change);
        }
        for (int i = 0; i < 4; i++) {
            x.undo();
        }
        due.is("undo(), the fifth", x.undo(), Due.NOT_POSSIBLE);
        due.is("names", x.count(0), 5);
    }
}
