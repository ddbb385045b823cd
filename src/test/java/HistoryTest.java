/** Promise 20: changes, the history and what is taken back. */
public final class HistoryTest {
    private static final Due due = new Due("HistoryTest");

    public static void main(String[] args) {
        eachChange();
        fourStates();
        everythingButTheText();
        compactionsTakenBack();
        errorsAreNoChanges();
        due.end();
    }

    private static void eachChange() {
        NameRolls x = new NameRolls();
        x.acquire(1);
        due.is("acquire", x.undo(), 0);
        due.is("find a", x.find(1), Due.NOT_FOUND);
        due.is("nothing more", x.undo(), Due.NOT_POSSIBLE);
        x.acquire(1);
        x.use(0);
        due.is("use", x.undo(), 1);
        due.is("users", x.numberOf(0, 1), 1);
        x.release(0);
        due.is("release", x.undo(), 1);
        due.is("users", x.numberOf(0, 1), 1);
        due.is("year", x.numberOf(0, 3), 0);
        x.put(1, 2, 0);
        due.is("put", x.undo(), 1);
        due.is("cell", x.cellOf(1, 2), Due.NOT_FOUND);
        x.put(1, 2, 0);
        x.clear(1, 2);
        due.is("clear", x.undo(), 2);
        due.is("cell", x.cellOf(1, 2), 0);
        x.compact(1);
        due.is("compact", x.undo(), 2);
        due.is("epoch", x.count(3), 0);
        Due.write(x, "+b;");
        x.play();
        due.is("play", x.undo(), 2);
        due.is("find b", x.find(2), Due.NOT_FOUND);
        x.clearText();
        due.is("play of nothing", x.play(), 0);
        due.is("states", x.count(9), 3);
    }

    private static void fourStates() {
        NameRolls x = Due.rolls("a", "b", "c", "d", "e", "f", "g");
        due.is("states", x.count(9), 4);
        for (int left = 3; left >= 0; left--) {
            due.is("undo()", x.undo(), left);
            due.is("names", x.count(0), 3 + left);
            due.is("states", x.count(9), left);
        }
        due.is("undo() of none", x.undo(), Due.NOT_POSSIBLE);
        due.is("names", x.count(0), 3);
        x.acquire(26);
        due.is("undo() again", x.undo(), 0);
        due.is("find z", x.find(26), Due.NOT_FOUND);
    }

    private static void everythingButTheText() {
        NameRolls x = Due.rolls("b", "a");
        x.put(0, 0, 0);
        x.release(0);
        x.type('+');
        x.put(0, 0, 1);
        due.is("counted so far", x.count(7), 1);
        x.type('a');
        due.is("undo()", x.undo(), 3);
        due.is("names that got a number", x.count(6), 2);
        due.is("numbers that lost their names", x.count(7), 0);
        due.is("the text", x.count(10), 2);
        due.is("find b", x.find(2), 0);
        due.is("cell", x.cellOf(0, 0), 0);
        x.undo();
        x.undo();
        due.is("undo()", x.undo(), 0);
        due.is("names that got a number", x.count(6), 1);
        due.is("the text", x.clearText(), 2);
    }

    private static void compactionsTakenBack() {
        NameRolls x = Due.rolls("c", "b", "a");
        x.compact(1);
        x.compact(0);
        x.compact(2);
        due.is("why(0)", x.why(0), 0);
        x.compact(2);
        due.is("why(0), too old", x.why(0), 2);
        due.is("undo()", x.undo(), 3);
        due.is("why(0), kept again", x.why(0), 0);
        due.is("follow(0)", x.follow(0), Due.tag(3, 1, 2));
        due.is("why of the epoch taken back", x.why(Due.tag(4, 1, 0)), 1);
        due.is("compaction(2, 0)", x.compaction(2, 0), 1);
        due.is("compaction(2, 2)", x.compaction(2, 2), 2);
        x.undo();
        x.undo();
        x.undo();
        due.is("compactions kept", x.count(8), 0);
        due.is("follow(0)", x.follow(0), 0);
        due.is("compaction(0, 0)", x.compaction(0, 0), Due.NOT_FOUND);
    }

    private static void errorsAreNoChanges() {
        NameRolls x = Due.rolls("a");
        x.put(0, 0, 0);
        x.release(0);
        x.undo();
        x.undo();
        x.acquire(0);
        x.use(5);
        x.release(5);
        x.put(0, 6, 0);
        x.put(0, 0, 5);
        x.clear(0, 0);
        x.clear(3, 0);
        x.compact(3);
        x.type('?');
        x.play();
        due.is("states", x.count(9), 1);
        due.is("undo()", x.undo(), 0);
        due.is("names", x.count(0), 0);
    }
}
