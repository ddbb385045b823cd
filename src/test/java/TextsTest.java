/** Promises 21 to 24: texts. */
public final class TextsTest {
    private static final Due due = new Due("TextsTest");

    public static void main(String[] args) {
        type();
        clearText();
        forms();
        ranges();
        notPossibleOtherwise();
        theFirstFault();
        faultWhat();
        play();
        playWithFault();
        compactionsInTexts();
        due.end();
    }

    private static void type() {
        NameRolls x = new NameRolls();
        int[] wrong = {31, 127, -1, 0, 65536 + 97, Integer.MAX_VALUE, Integer.MIN_VALUE};
        for (int character : wrong) {
            due.is("type(" + character + ")", x.type(character), Due.INVALID);
        }
        due.is("type(32)", x.type(32), 1);
        due.is("type(126)", x.type(126), 2);
        for (int length = 3; length <= 60; length++) {
            due.is("type, to " + length, x.type('a'), length);
        }
        due.is("type, beyond 60", x.type('a'), Due.LIMIT);
        due.is("type(127), beyond 60", x.type(127), Due.INVALID);
        due.is("length", x.count(10), 60);
        due.is("typing is no change", x.count(9), 0);
    }

    private static void clearText() {
        NameRolls x = new NameRolls();
        due.is("clearText() of none", x.clearText(), 0);
        Due.write(x, "+a;+b");
        due.is("clearText()", x.clearText(), 5);
        due.is("clearText() again", x.clearText(), 0);
        due.is("length", x.count(10), 0);
        due.is("no fault", x.fault(0), Due.NOT_FOUND);
        due.is("clearing is no change", x.count(9), 0);
    }

    private static void forms() {
        NameRolls x = Due.rolls("a");
        due.fault(x, "x", 0, 1, 0);
        due.fault(x, ";", 0, 1, 0);
        due.fault(x, " +b;", 0, 1, 0);
        due.fault(x, "+", 0, 1, 1);
        due.fault(x, "-", 0, 1, 1);
        due.fault(x, "=", 0, 1, 1);
        due.fault(x, "!", 0, 1, 1);
        due.fault(x, "+;", 0, 1, 1);
        due.fault(x, "-;", 0, 1, 1);
        due.fault(x, "+A;", 0, 1, 1);
        due.fault(x, "+`;", 0, 1, 1);
        due.fault(x, "+{;", 0, 1, 1);
        due.fault(x, "+b", 0, 1, 2);
        due.fault(x, "+bB;", 0, 1, 2);
        due.fault(x, "+b+c;", 0, 1, 2);
        due.fault(x, "+abcdefgh", 0, 1, 9);
        due.fault(x, "+abcdefgh,", 0, 1, 9);
        due.fault(x, "=a,0,a;", 0, 1, 1);
        due.fault(x, "=/,0,a;", 0, 1, 1);
        due.fault(x, "=:,0,a;", 0, 1, 1);
        due.fault(x, "=0", 0, 1, 2);
        due.fault(x, "=00,0,a;", 0, 1, 2);
        due.fault(x, "=0;", 0, 1, 2);
        due.fault(x, "=9,", 0, 1, 3);
        due.fault(x, "=9,,a;", 0, 1, 3);
        due.fault(x, "=9,9", 0, 1, 4);
        due.fault(x, "=9,99,a;", 0, 1, 4);
        due.fault(x, "=9,9,", 0, 1, 5);
        due.fault(x, "=9,9,;", 0, 1, 5);
        due.fault(x, "=9,9,1;", 0, 1, 5);
        due.fault(x, "=9,9,abcdefg", 0, 1, 12);
        due.fault(x, "!a;", 0, 1, 1);
        due.fault(x, "!;", 0, 1, 1);
        due.fault(x, "!9", 0, 1, 2);
        due.fault(x, "!10;", 0, 1, 2);
        due.noFault(x, "");
        due.noFault(x, "+zzzzzz;");
        due.noFault(x, "-a;");
        due.noFault(x, "=0,0,a;");
        due.noFault(x, "=2,5,a;");
        due.noFault(x, "!0;");
        due.noFault(x, "!2;");
    }

    private static void ranges() {
        NameRolls x = Due.rolls("a");
        due.fault(x, "=3,0,a;", 0, 2, 0);
        due.fault(x, "=9,9,abcdefg;", 0, 2, 0);
        due.fault(x, "=2,6,a;", 0, 2, 1);
        due.fault(x, "=0,9,abcdefg;", 0, 2, 1);
        due.fault(x, "=0,0,abcdefg;", 0, 2, 3);
        due.fault(x, "!3;", 0, 2, 2);
        due.fault(x, "!9;", 0, 2, 2);
        due.fault(x, "+abcdefg;", 0, 2, 3);
        due.fault(x, "-abcdefg;", 0, 2, 3);
        due.fault(x, "+aaaaaaaaaaaaaaaaaaaaaaaaaaaaaaaaaaaaaaaaaaaaaaaaaaaaaaaaaa;", 0, 2, 3);
        due.fault(x, "=3,0,b;", 0, 2, 0);
    }

    private static void notPossibleOtherwise() {
        NameRolls x = Due.rolls("a", "b");
        x.put(0, 0, 0);
        x.release(0);
        int none = Due.NOT_FOUND;
        due.fault(x, "-a;", 0, 3, none);
        due.fault(x, "-c;", 0, 3, none);
        due.fault(x, "=0,0,c;", 0, 3, none);
        due.fault(x, "-b;-b;", 3, 3, none);
        due.fault(x, "-b;=0,1,b;", 3, 3, none);
        due.fault(x, "=0,0,b;=0,1,a;", 7, 3, none);
        due.fault(x, "+a;-a;-a;", 6, 3, none);
        due.noFault(x, "+a;-a;");
        due.noFault(x, "=0,0,b;-b;");
        due.noFault(x, "=0,0,a;");
    }

    private static void theFirstFault() {
        NameRolls x = Due.rolls("a");
        due.fault(x, "+b;-c;x", 3, 3, Due.NOT_FOUND);
        due.fault(x, "+b;!7;-c;", 3, 2, 2);
        due.fault(x, "+b;+c;=0,0,", 6, 1, 5);
        due.fault(x, "-a;-a;+", 3, 3, Due.NOT_FOUND);
        due.fault(x, "+b;;", 3, 1, 0);
        due.fault(x, "+b; +c;", 3, 1, 0);
        due.is("nothing was done", x.count(0), 1);
    }

    private static void faultWhat() {
        NameRolls x = new NameRolls();
        due.is("fault(-1)", x.fault(-1), Due.INVALID);
        due.is("fault(3)", x.fault(3), Due.INVALID);
        x.type('x');
        due.is("fault(-1)", x.fault(-1), Due.INVALID);
        due.is("fault(3)", x.fault(3), Due.INVALID);
        due.is("fault is no change", x.count(9), 0);
    }

    private static void play() {
        NameRolls x = Due.rolls("a");
        Due.write(x, "+b;+b;=1,2,b;-b;-a;+c;=1,3,c;");
        due.is("play()", x.play(), 7);
        due.is("find a", x.find(1), Due.NOT_FOUND);
        due.is("find b", x.find(2), 1);
        due.is("users of b", x.numberOf(1, 1), 2);
        due.is("find c, on the number of a", x.find(3), 0);
        due.is("year of it", x.numberOf(0, 3), 1);
        due.is("cell (1, 2)", x.cellOf(1, 2), 1);
        due.is("cell (1, 3)", x.cellOf(1, 3), 100);
        due.is("the text stays", x.count(10), 29);
        due.is("names that got a number", x.count(6), 3);
        due.is("numbers that lost their names", x.count(7), 1);
        due.is("one change", x.count(9), 2);
        due.is("undo()", x.undo(), 1);
        due.is("find a", x.find(1), 0);
        due.is("cells", x.count(2), 0);
        due.is("the text stays", x.count(10), 29);
        x.clearText();
        due.is("play() of none", x.play(), 0);
        due.is("a change", x.count(9), 2);
        Due.write(x, "+abcdef;+bcdefg;");
        due.is("play() with 6 letters", x.play(), 2);
        due.is("find abcdef", x.find(Due.name("abcdef")), 1);
        due.is("find bcdefg", x.find(Due.name("bcdefg")), 2);
    }

    private static void playWithFault() {
        NameRolls x = Due.rolls("a");
        Due.write(x, "+b;+c;-d;");
        due.is("play()", x.play(), Due.NOT_POSSIBLE);
        due.is("find b", x.find(2), Due.NOT_FOUND);
        due.is("states", x.count(9), 1);
        due.is("the text stays", x.count(10), 9);
        x.acquire(Due.name("d"));
        due.is("play() then", x.play(), 3);
        due.is("find c", x.find(3), 3);
    }

    private static void compactionsInTexts() {
        NameRolls x = Due.rolls("b", "a");
        Due.write(x, "!1;!0;!2;+c;");
        due.is("play()", x.play(), 4);
        due.is("epoch", x.count(3), 3);
        due.is("follow(0)", x.follow(0), Due.tag(3, 1, 1));
        due.is("compaction(2, 0)", x.compaction(2, 0), 1);
        due.is("compaction(1, 0)", x.compaction(1, 0), 0);
        due.is("compaction(0, 0)", x.compaction(0, 0), 2);
        due.is("compaction(0, 1)", x.compaction(0, 1), 2);
        due.is("undo()", x.undo(), 2);
        due.is("epoch", x.count(3), 0);
        due.is("follow(0)", x.follow(0), 0);
    }
}
