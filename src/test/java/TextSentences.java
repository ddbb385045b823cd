/** The term "Texts" and the promises 21 to 24, sentence by sentence. */
final class TextSentences {
    private static final String TEXTS = "Texts";
    private static final int NONE = Due.NOT_FOUND;

    private TextSentences() { }

    static void tell(Sentences s) {
        s.tell(TEXTS, "There is a text of at most 60 characters,", TextSentences::sixty);
        s.tell(TEXTS, "initially empty: orders, each followed by \";\":", TextSentences::empty);
        s.tell(TEXTS, "\"+\" letters (the name is acquired),", TextSentences::plus);
        s.tell(TEXTS, "\"-\" letters (a user gives the number of this name back),",
            TextSentences::minus);
        s.tell(TEXTS, "\"=\" a table, \",\", a cell, \",\", letters (the cell gets this name, which "
            + "has a number, in place of what it has),", TextSentences::equal);
        s.tell(TEXTS, "\"!\" a rule (a compaction);", TextSentences::bang);
        s.tell(TEXTS, "tables, cells and rules are one digit.", TextSentences::oneDigit);
        s.tell(TEXTS, "The fault of the text is the position, from 0, of the first character of "
            + "the first order that is not possible;", TextSentences::position);
        s.tell(TEXTS, "its reason is 1 if it is not of this form,", TextSentences::form);
        s.tell(TEXTS, "its \";\" included,", TextSentences::semicolon);
        s.tell(TEXTS, "2 if a table, cell or rule is out of its range,", TextSentences::range);
        s.tell(TEXTS, "or there are more than 6 letters,", TextSentences::sevenLetters);
        s.tell(TEXTS, "and 3 if it is not possible otherwise (no room;", TextSentences::noRoom);
        s.tell(TEXTS, "no such name;", TextSentences::noSuchName);
        s.tell(TEXTS, "the users of a name are cells of tables alone),", TextSentences::cellsAlone);
        s.tell(TEXTS, "when those ahead of it are done.", TextSentences::thoseAhead);
        s.tell(TEXTS, "The cause of a fault with the reason 1 is at which character of the order "
            + "it breaks off", TextSentences::breaksOff);
        s.tell(TEXTS, "(0 for its first one;", TextSentences::firstCharacter);
        s.tell(TEXTS, "of an order that the text ends too early it is its length);",
            TextSentences::endsTooEarly);
        s.tell(TEXTS, "with the reason 2 it is 0 for the table,", TextSentences::causeTable);
        s.tell(TEXTS, "1 for the cell,", TextSentences::causeCell);
        s.tell(TEXTS, "2 for the rule,", TextSentences::causeRule);
        s.tell(TEXTS, "3 for the letters,", TextSentences::causeLetters);
        s.tell(TEXTS, "the first one of these that is wrong.", TextSentences::firstWrong);

        s.tell("Promise 21", "Appends a character to the text.", TextSentences::appends);
        s.tell("Promise 21", "character: 32 to 126", TextSentences::characters);
        s.tell("Promise 21", "Returns the length of the text;", TextSentences::length);
        s.tell("Promise 21", "INVALID_ARGUMENT if character is out of range;",
            TextSentences::noCharacter);
        s.tell("Promise 21", "LIMIT_REACHED if it has 60 characters.", TextSentences::sixty);
        s.tell("Promise 22", "Empties the text.", TextSentences::empties);
        s.tell("Promise 22", "Returns the length it had.", TextSentences::lengthItHad);
        s.tell("Promise 23", "Tells about the fault of the text.", TextSentences::tellsAbout);
        s.tell("Promise 23", "what: 0: its position; 1: its reason; 2: its cause Returns that;",
            TextSentences::whatOfFault);
        s.tell("Promise 23", "INVALID_ARGUMENT if what is out of range;", TextSentences::wrongWhat);
        s.tell("Promise 23", "NOT_FOUND if the text has no fault", TextSentences::withoutFault);
        s.tell("Promise 23", "(also if it is empty),", TextSentences::emptyText);
        s.tell("Promise 23", "for 2 if the reason is 3.", TextSentences::noCause);
        s.tell("Promise 24", "Does all orders of the text,", TextSentences::allOrders);
        s.tell("Promise 24", "which stays.", TextSentences::stays);
        s.tell("Promise 24", "They are one change,", TextSentences::oneChange);
        s.tell("Promise 24", "also if there are none.", TextSentences::noOrders);
        s.tell("Promise 24", "Returns how many there are in it;", TextSentences::howMany);
        s.tell("Promise 24", "NOT_POSSIBLE if it has a fault.", TextSentences::playWithFault);
    }

    private static void sixty(Due due) {
        NameRolls x = new NameRolls();
        Due.write(x, "+a;".repeat(19) + "+b");
        due.is("type, the 60th", x.type(';'), 60);
        due.is("type, the 61st", x.type(';'), Due.LIMIT);
        due.is("type, the 61st again", x.type(32), Due.LIMIT);
        due.is("length", x.count(10), 60);
        due.is("fault(0)", x.fault(0), NONE);
        due.is("play()", x.play(), 20);
        due.is("users of a", x.numberOf(0, 1), 19);
        due.is("find b", x.find(2), 1);
        due.is("clearText()", x.clearText(), 60);
        due.is("type, the text empty", x.type(';'), 1);
    }

    private static void empty(Due due) {
        NameRolls x = new NameRolls();
        due.is("length", x.count(10), 0);
        due.is("clearText()", x.clearText(), 0);
        due.is("fault(1)", x.fault(1), NONE);
        due.noFault(x, "+a;");
        due.noFault(x, "+a;+b;");
        due.fault(x, "+a;+b", 3, 1, 2);
        due.fault(x, "+a;;", 3, 1, 0);
        due.fault(x, "+a,+b;", 0, 1, 2);
    }

    private static void plus(Due due) {
        NameRolls x = Due.rolls("c", "a");
        x.release(0);
        Due.write(x, "+b;+a;+a;+zzzzzz;");
        due.is("play()", x.play(), 4);
        due.is("find b", x.find(2), 0);
        due.is("year of 0", x.numberOf(0, 3), 1);
        due.is("users of a", x.numberOf(1, 1), 3);
        due.is("find zzzzzz", x.find(387420488), 2);
        due.is("users of it", x.numberOf(2, 1), 1);
        due.is("names that got a number", x.count(6), 4);
    }

    private static void minus(Due due) {
        NameRolls x = Due.rolls("a", "ab", "ab");
        Due.write(x, "-ab;-a;");
        due.is("play()", x.play(), 2);
        due.is("users of ab", x.numberOf(1, 1), 1);
        due.is("find a", x.find(1), NONE);
        due.is("year of 0", x.numberOf(0, 3), 1);
        due.is("year of 1", x.numberOf(1, 3), 0);
        due.is("numbers that lost their names", x.count(7), 1);
    }

    private static void equal(Due due) {
        NameRolls x = Due.rolls("a", "b");
        Due.write(x, "=0,0,a;=2,5,b;=1,0,b;=0,5,a;");
        due.is("play()", x.play(), 4);
        due.is("cellOf(0, 0)", x.cellOf(0, 0), 0);
        due.is("cellOf(2, 5)", x.cellOf(2, 5), 1);
        due.is("cellOf(1, 0)", x.cellOf(1, 0), 1);
        due.is("cellOf(0, 5)", x.cellOf(0, 5), 0);
        due.is("users of a", x.numberOf(0, 1), 3);
        Due.write(x, "-a;=0,0,b;=0,5,a;");
        due.is("play(), in place of a", x.play(), 3);
        due.is("cellOf(0, 0)", x.cellOf(0, 0), 1);
        due.is("users of a", x.numberOf(0, 1), 1);
        due.is("users of b", x.numberOf(1, 1), 4);
        due.noFault(x, "=0,5,a;=0,5,a;");
        Due.write(x, "=0,5,b;");
        due.is("play(), the last user of a", x.play(), 1);
        due.is("find a", x.find(1), NONE);
        due.fault(x, "=0,0,a;", 0, 3, NONE);
    }

    private static void bang(Due due) {
        NameRolls x = Due.rolls("c", "b", "a", "b");
        Due.write(x, "!0;!1;!2;");
        due.is("play()", x.play(), 3);
        for (int index = 0; index < 3; index++) {
            due.is("rule", x.compaction(index, 0), 2 - index);
        }
        due.is("moved by rule 0", x.compaction(2, 2), 0);
        due.is("moved by rule 1", x.compaction(1, 2), 2);
        due.is("moved by rule 2", x.compaction(0, 2), 2);
        due.is("find b", x.find(2), 0);
        due.is("follow(1)", x.follow(1), 3000200);
    }

    private static void oneDigit(Due due) {
        NameRolls x = Due.rolls("a");
        due.fault(x, "=00,0,a;", 0, 1, 2);
        due.fault(x, "=0,00,a;", 0, 1, 4);
        due.fault(x, "!00;", 0, 1, 2);
        due.fault(x, "=,0,a;", 0, 1, 1);
        due.fault(x, "=0,,a;", 0, 1, 3);
        due.fault(x, "!;", 0, 1, 1);
        char[] none = {'/', ':', 'a', ' ', '-', '+'};
        for (char c : none) {
            due.fault(x, "=" + c + ",0,a;", 0, 1, 1);
            due.fault(x, "=0," + c + ",a;", 0, 1, 3);
            due.fault(x, "!" + c + ";", 0, 1, 1);
        }
        for (char c = '0'; c <= '9'; c++) {
            due.fault(x, "=" + c + ",0,a;=", c < '3' ? 7 : 0, c < '3' ? 1 : 2, c < '3' ? 1 : 0);
        }
    }

    private static void position(Due due) {
        NameRolls x = Due.rolls("a");
        due.fault(x, "-b;", 0, 3, NONE);
        due.fault(x, "+b;-c;", 3, 3, NONE);
        due.fault(x, "+abcdef;-c;+", 8, 3, NONE);
        due.fault(x, "=0,0,a;!1;!3;", 10, 2, 2);
        due.fault(x, "+a;x+a;", 3, 1, 0);
        due.fault(x, "+a;+A;-z;", 3, 1, 1);
        due.fault(x, "+a;".repeat(19) + "+a", 57, 1, 2);
        due.fault(x, "+a;".repeat(19) + "-b;", 57, 3, NONE);
        due.noFault(x, "+a;".repeat(19) + "+a;");
    }

    private static void form(Due due) {
        NameRolls x = Due.rolls("a");
        String[] none = {"a;", ";", " ", " +a;", "+ a;", "+a ;", "+;", "-;", "+A;", "+a1;", "+1;",
            "*a;", "<0,0,a;", "\"0;", "=0,0,;", "=0,0,A;", "=0;0,a;", "=0,0;a;", "=0,0a;", "=0,0;",
            "!", "!!0;", "!0,", "+`;", "+{;", "-a-a;", "=-1,0,a;", "~", "0;"};
        for (String text : none) {
            Due.write(x, text);
            due.is("\"" + text + "\" fault(1)", x.fault(1), 1);
            due.is("\"" + text + "\" fault(0)", x.fault(0), 0);
        }
    }

    private static void semicolon(Due due) {
        NameRolls x = Due.rolls("a");
        due.fault(x, "+a", 0, 1, 2);
        due.fault(x, "-z", 0, 1, 2);
        due.fault(x, "=9,9,z", 0, 1, 6);
        due.fault(x, "!9", 0, 1, 2);
        due.fault(x, "+abcdefg", 0, 1, 8);
        due.fault(x, "+a:", 0, 1, 2);
        due.fault(x, "!9,", 0, 1, 2);
        due.fault(x, "+abcdefg!", 0, 1, 8);
    }

    private static void range(Due due) {
        NameRolls x = Due.rolls("a");
        for (int digit = 0; digit <= 9; digit++) {
            isInRange(due, x, "=" + digit + ",0,a;", digit <= 2, 0);
            isInRange(due, x, "=0," + digit + ",a;", digit <= 5, 1);
            isInRange(due, x, "!" + digit + ";", digit <= 2, 2);
        }
    }

    private static void isInRange(Due due, NameRolls x, String text, boolean inRange, int cause) {
        if (inRange) {
            due.noFault(x, text);
        } else {
            due.fault(x, text, 0, 2, cause);
        }
    }

    private static void sevenLetters(Due due) {
        NameRolls x = Due.rolls("abcdef");
        due.noFault(x, "+abcdef;");
        due.noFault(x, "-abcdef;");
        due.noFault(x, "=0,0,abcdef;");
        due.fault(x, "+abcdefg;", 0, 2, 3);
        due.fault(x, "-abcdefg;", 0, 2, 3);
        due.fault(x, "=0,0,abcdefg;", 0, 2, 3);
        due.fault(x, "+" + "a".repeat(58) + ";", 0, 2, 3);
        due.fault(x, "+" + "a".repeat(59), 0, 1, 60);
    }

    private static void noRoom(Due due) {
        NameRolls full = Due.full();
        due.fault(full, "+a;", 0, 3, NONE);
        due.fault(full, "+aa;+bn;+bo;", 8, 3, NONE);
        due.noFault(full, "-aa;+a;");
        NameRolls crowded = Due.crowded();
        due.fault(crowded, "+b;+a;", 3, 3, NONE);
        due.fault(crowded, "=0,0,a;", 0, 3, NONE);
        due.noFault(crowded, "-a;+a;");
        due.noFault(crowded, "-a;=0,0,a;");
        due.fault(crowded, "-a;=0,0,a;=0,0,a;", 10, 3, NONE);
        NameRolls last = Due.lastEpoch();
        due.fault(last, "!0;", 0, 3, NONE);
        due.fault(last, "!3;", 0, 2, 2);
        last.undo();
        due.noFault(last, "!0;");
        due.fault(last, "!0;!0;", 3, 3, NONE);
    }

    private static void noSuchName(Due due) {
        NameRolls x = Due.rolls("ab", "abc");
        due.fault(x, "-a;", 0, 3, NONE);
        due.fault(x, "=0,0,abcd;", 0, 3, NONE);
        due.fault(x, "-b;", 0, 3, NONE);
        due.noFault(x, "-ab;");
        due.noFault(x, "=0,0,abc;");
        due.fault(x, "-ab;-ab;", 4, 3, NONE);
        due.fault(x, "-ab;=0,0,ab;", 4, 3, NONE);
        due.fault(new NameRolls(), "-a;", 0, 3, NONE);
        due.fault(Due.full(), "-a;", 0, 3, NONE);
    }

    private static void cellsAlone(Due due) {
        NameRolls x = Due.rolls("a", "b");
        x.put(0, 0, 0);
        x.put(1, 1, 0);
        due.noFault(x, "-a;");
        due.fault(x, "-a;-a;", 3, 3, NONE);
        x.release(0);
        due.fault(x, "-a;", 0, 3, NONE);
        due.noFault(x, "+a;-a;");
        due.noFault(x, "=0,0,b;=1,1,b;");
        due.fault(x, "=0,0,b;-a;", 7, 3, NONE);
    }

    private static void thoseAhead(Due due) {
        NameRolls x = Due.rolls("a");
        due.noFault(x, "+b;-b;");
        due.fault(x, "+b;-b;-b;", 6, 3, NONE);
        due.noFault(x, "+b;=0,0,b;-b;=0,0,a;+b;-b;");
        due.fault(x, "+b;=0,0,b;-b;=0,0,a;-b;", 20, 3, NONE);
        due.fault(x, "-a;=0,0,a;", 3, 3, NONE);
        due.fault(x, "+b;!1;-b;-b;", 9, 3, NONE);
        due.is("find b, nothing was done", x.find(2), NONE);
        due.is("epoch", x.count(3), 0);
    }

    private static void breaksOff(Due due) {
        NameRolls x = Due.rolls("a");
        due.fault(x, "+A;", 0, 1, 1);
        due.fault(x, "+aB;", 0, 1, 2);
        due.fault(x, "-abcdefg7;", 0, 1, 8);
        due.fault(x, "=x,0,a;", 0, 1, 1);
        due.fault(x, "=0;0,a;", 0, 1, 2);
        due.fault(x, "=0,x,a;", 0, 1, 3);
        due.fault(x, "=0,0;a;", 0, 1, 4);
        due.fault(x, "=0,0,;", 0, 1, 5);
        due.fault(x, "=0,0,a,", 0, 1, 6);
        due.fault(x, "!x;", 0, 1, 1);
        due.fault(x, "!0!", 0, 1, 2);
        due.fault(x, "+b;+A;", 3, 1, 1);
        due.fault(x, "+b;=x,0,a;", 3, 1, 1);
        due.fault(x, "+b;=0;0,a;", 3, 1, 2);
        due.fault(x, "+b;=0,0,;", 3, 1, 5);
        due.fault(x, "!0;+b;!x;", 6, 1, 1);
    }

    private static void firstCharacter(Due due) {
        NameRolls x = Due.rolls("a");
        for (char c = 32; c <= 126; c++) {
            if ("+-=!".indexOf(c) < 0) {
                x.clearText();
                x.type(c);
                due.is("\"" + c + "\" fault(2)", x.fault(2), 0);
            }
        }
        due.fault(x, "+a; +a;", 3, 1, 0);
        due.fault(x, "+a;a", 3, 1, 0);
    }

    private static void endsTooEarly(Due due) {
        NameRolls x = Due.rolls("a");
        String[] whole = {"+ab;", "-a;", "=0,0,a;", "!0;"};
        for (String order : whole) {
            for (int length = 1; length < order.length(); length++) {
                due.fault(x, order.substring(0, length), 0, 1, length);
            }
        }
        for (String order : whole) {
            int length = order.length() - 1;
            due.fault(x, "+ab;" + order.substring(0, length), 4, 1, length);
            due.fault(x, "+ab;" + order.charAt(0), 4, 1, 1);
        }
        due.fault(x, "-" + "z".repeat(59), 0, 1, 60);
    }

    private static void causeTable(Due due) {
        NameRolls x = Due.rolls("a");
        due.fault(x, "=3,0,a;", 0, 2, 0);
        due.fault(x, "=9,5,a;", 0, 2, 0);
        due.fault(x, "!1;=3,0,a;", 3, 2, 0);
    }

    private static void causeCell(Due due) {
        NameRolls x = Due.rolls("a");
        due.fault(x, "=0,6,a;", 0, 2, 1);
        due.fault(x, "=2,9,a;", 0, 2, 1);
        due.fault(x, "!1;=2,6,a;", 3, 2, 1);
    }

    private static void causeRule(Due due) {
        NameRolls x = new NameRolls();
        due.fault(x, "!3;", 0, 2, 2);
        due.fault(x, "!9;", 0, 2, 2);
        due.fault(x, "!2;!4;", 3, 2, 2);
    }

    private static void causeLetters(Due due) {
        NameRolls x = Due.rolls("abcdef");
        due.fault(x, "+abcdefg;", 0, 2, 3);
        due.fault(x, "-abcdefg;", 0, 2, 3);
        due.fault(x, "=2,5,abcdefg;", 0, 2, 3);
        due.fault(x, "+abcdef;-abcdefa;", 8, 2, 3);
    }

    private static void firstWrong(Due due) {
        NameRolls x = Due.rolls("a");
        due.fault(x, "=3,6,abcdefg;", 0, 2, 0);
        due.fault(x, "=3,6,a;", 0, 2, 0);
        due.fault(x, "=3,0,abcdefg;", 0, 2, 0);
        due.fault(x, "=0,6,abcdefg;", 0, 2, 1);
        due.fault(x, "=3,0,b;", 0, 2, 0);
    }

    private static void appends(Due due) {
        NameRolls x = new NameRolls();
        x.type('+');
        x.type('a');
        due.fault(x, "+a", 0, 1, 2);
        x.type('b');
        x.type(';');
        due.is("play()", x.play(), 1);
        due.is("find ab", x.find(29), 0);
        x.type('+');
        due.is("fault(0), behind what there was", x.fault(0), 4);
    }

    private static void characters(Due due) {
        NameRolls x = new NameRolls();
        for (int character = 32; character <= 126; character++) {
            x.clearText();
            due.is("type(" + character + ")", x.type(character), 1);
        }
    }

    private static void length(Due due) {
        NameRolls x = new NameRolls();
        for (int length = 1; length <= 60; length++) {
            due.is("type(32)", x.type(32), length);
            due.is("length", x.count(10), length);
        }
        x.clearText();
        due.is("type(126)", x.type(126), 1);
    }

    private static void noCharacter(Due due) {
        NameRolls x = new NameRolls();
        int[] none = {31, 127, 0, -1, 128, 255, 65536 + 'a', -65536 + 'a', Integer.MAX_VALUE,
            Integer.MIN_VALUE};
        for (int character : none) {
            due.is("type(" + character + ")", x.type(character), Due.INVALID);
            due.is("length", x.count(10), 0);
        }
    }

    private static void empties(Due due) {
        NameRolls x = new NameRolls();
        Due.write(x, "+a;-z;");
        x.clearText();
        due.is("length", x.count(10), 0);
        due.is("fault(0)", x.fault(0), NONE);
        due.is("play()", x.play(), 0);
        x.type('-');
        due.is("fault(2)", x.fault(2), 1);
        due.is("states", x.count(9), 1);
    }

    private static void lengthItHad(Due due) {
        NameRolls x = new NameRolls();
        due.is("clearText() of a new one", x.clearText(), 0);
        x.type('!');
        due.is("clearText()", x.clearText(), 1);
        due.is("clearText() again", x.clearText(), 0);
        Due.write(x, "+a;".repeat(20));
        due.is("clearText(), the longest", x.clearText(), 60);
        due.is("clearText() again", x.clearText(), 0);
    }

    private static void tellsAbout(Due due) {
        NameRolls x = Due.rolls("a");
        Due.write(x, "-a;-a;");
        due.is("fault(0)", x.fault(0), 3);
        x.acquire(1);
        due.is("fault(0), a has one user more", x.fault(0), NONE);
        x.undo();
        due.is("fault(0), taken back", x.fault(0), 3);
        due.is("users of a", x.numberOf(0, 1), 1);
        due.is("states", x.count(9), 1);
    }

    private static void whatOfFault(Due due) {
        NameRolls x = new NameRolls();
        Due.write(x, "+a;+b;=0,7,a;");
        due.is("fault(0)", x.fault(0), 6);
        due.is("fault(1)", x.fault(1), 2);
        due.is("fault(2)", x.fault(2), 1);
        Due.write(x, "+a;=0,0,;");
        due.is("fault(0)", x.fault(0), 3);
        due.is("fault(1)", x.fault(1), 1);
        due.is("fault(2)", x.fault(2), 5);
    }

    private static void wrongWhat(Due due) {
        String[] texts = {"", "+a;", "x", "-a;"};
        for (String text : texts) {
            NameRolls x = new NameRolls();
            Due.write(x, text);
            int[] none = {-1, 3, 4, Integer.MAX_VALUE, Integer.MIN_VALUE};
            for (int what : none) {
                due.is("\"" + text + "\" fault(" + what + ")", x.fault(what), Due.INVALID);
            }
        }
    }

    private static void withoutFault(Due due) {
        NameRolls x = Due.rolls("a");
        due.noFault(x, "+b;-a;=2,5,b;!2;+zzzzzz;-zzzzzz;=2,5,b;!0;!1;");
        due.noFault(x, "-a;");
        due.noFault(x, "+a;".repeat(20));
    }

    private static void emptyText(Due due) {
        due.noFault(new NameRolls(), "");
        due.noFault(Due.full(), "");
        due.noFault(Due.rolls("a"), "");
    }

    private static void noCause(Due due) {
        NameRolls x = Due.rolls("a");
        due.fault(x, "-b;", 0, 3, NONE);
        due.fault(x, "=0,0,b;", 0, 3, NONE);
        due.fault(x, "+b;-c;", 3, 3, NONE);
        due.fault(x, "-a;-a;+;", 3, 3, NONE);
    }

    private static void allOrders(Due due) {
        NameRolls x = Due.rolls("d");
        Due.write(x, "+c;+b;-d;+b;=1,2,c;!1;+a;-b;");
        due.is("play()", x.play(), 8);
        due.is("find a", x.find(1), 2);
        due.is("find b", x.find(2), 0);
        due.is("find c", x.find(3), 1);
        due.is("find d", x.find(4), NONE);
        due.is("users of b", x.numberOf(0, 1), 1);
        due.is("users of c", x.numberOf(1, 1), 2);
        due.is("cellOf(1, 2)", x.cellOf(1, 2), x.numberOf(1, 4));
        due.is("epoch", x.count(3), 1);
        due.is("names that got a number", x.count(6), 4);
        due.is("numbers that lost their names", x.count(7), 1);
    }

    private static void stays(Due due) {
        NameRolls x = new NameRolls();
        Due.write(x, "+a;");
        for (int users = 1; users <= 5; users++) {
            due.is("play()", x.play(), 1);
            due.is("users of a", x.numberOf(0, 1), users);
            due.is("length", x.count(10), 3);
        }
        due.is("clearText()", x.clearText(), 3);
    }

    private static void oneChange(Due due) {
        NameRolls x = Due.rolls("a");
        Due.write(x, "+b;+c;+d;+e;+f;!1;");
        x.play();
        due.is("states", x.count(9), 2);
        due.is("undo()", x.undo(), 1);
        due.is("names", x.count(0), 1);
        due.is("epoch", x.count(3), 0);
        due.is("undo()", x.undo(), 0);
        due.is("names", x.count(0), 0);
    }

    private static void noOrders(Due due) {
        NameRolls x = Due.rolls("a");
        for (int states = 2; states <= 4; states++) {
            due.is("play() of none", x.play(), 0);
            due.is("states", x.count(9), states);
        }
        x.play();
        for (int states = 3; states >= 0; states--) {
            due.is("undo()", x.undo(), states);
            due.is("names", x.count(0), 1);
        }
    }

    private static void howMany(Due due) {
        NameRolls x = new NameRolls();
        for (int orders = 0; orders <= 20; orders += 5) {
            Due.write(x, "+a;".repeat(orders));
            due.is("play(), " + orders + " orders", x.play(), orders);
        }
        Due.write(x, "=0,0,a;-a;!0;");
        due.is("play()", x.play(), 3);
    }

    private static void playWithFault(Due due) {
        String[] texts = {"x", "+", "+b", "+b;+c;-d;", "+b;!3;", "!0;!0;!0;=0,6,a;", "+b;;",
            "-a;-a;", "+abcdefg;", "=0,0,b;"};
        for (String text : texts) {
            NameRolls x = Due.rolls("a");
            Due.write(x, text);
            due.is("\"" + text + "\" play()", x.play(), Due.NOT_POSSIBLE);
            due.is("names", x.count(0), 1);
            due.is("users of a", x.numberOf(0, 1), 1);
            due.is("epoch", x.count(3), 0);
            due.is("states", x.count(9), 1);
            due.is("length", x.count(10), text.length());
        }
    }
}
