import java.lang.reflect.Method;
import java.lang.reflect.Modifier;

/** The terms "Names" (with numbers, users and years) and "Tables", sentence by sentence. */
final class NameSentences {
    private NameSentences() { }

    static void tell(Sentences s) {
        s.tell("Terms", "All numbers are whole numbers.", NameSentences::wholeNumbers);
        s.tell("Names", "A name has 1 to 6 letters, a to z.", NameSentences::letters);
        s.tell("Names", "It is told as a number: its letters, from the first one on, are digits to "
            + "the base of 27, a being 1, z being 26", NameSentences::digits);
        s.tell("Names", "(so that no digit is 0).", NameSentences::noDigitIsZero);
        s.tell("Names", "The order of names is that of a dictionary:", NameSentences::dictionary);
        s.tell("Names", "letter by letter,", NameSentences::letterByLetter);
        s.tell("Names", "one that ends is ahead of one that goes on.", NameSentences::endsAhead);
        s.tell("Names", "Numbers, users, years There are 40 numbers, from 0 on.",
            NameSentences::fortyNumbers);
        s.tell("Names", "A number has a name with at least one user, or no name.",
            NameSentences::nameWithUsers);
        s.tell("Names", "Each name has one number at most.", NameSentences::oneNumber);
        s.tell("Names", "A number has a year, 0 at first.", NameSentences::firstYear);
        s.tell("Names", "When a name is acquired that has a number, this has one user more.",
            NameSentences::acquiredAgain);
        s.tell("Names", "Otherwise the lowest number without a name gets this name, with one user",
            NameSentences::lowestNumber);
        s.tell("Names", "(its year stays as it is).", NameSentences::yearStays);
        s.tell("Names", "When a user gives a number back, it has one user less;",
            NameSentences::oneUserLess);
        s.tell("Names", "with the last one it has no name any more, and its year becomes greater "
            + "by 1.", NameSentences::lastUser);
        s.tell("Tables", "There are 3 tables, 0 to 2, with 6 cells each, 0 to 5;",
            NameSentences::eighteenCells);
        s.tell("Tables", "a cell is empty or has a number, of which it is a user.",
            NameSentences::cellIsUser);
    }

    private static void wholeNumbers(Due due) {
        for (Method method : NameRolls.class.getDeclaredMethods()) {
            if (Modifier.isPublic(method.getModifiers())) {
                due.is(method + ": int", method.getReturnType() == int.class ? 1 : 0, 1);
                for (Class<?> type : method.getParameterTypes()) {
                    due.is(method + ": of int", type == int.class ? 1 : 0, 1);
                }
            }
        }
    }

    private static void letters(Due due) {
        NameRolls x = new NameRolls();
        due.is("acquire(0), no letter", x.acquire(0), Due.INVALID);
        due.is("acquire(-1)", x.acquire(-1), Due.INVALID);
        String letters = "";
        for (int length = 1; length <= 6; length++) {
            letters += "m";
            int name = Due.name(letters);
            due.is("acquire " + letters, x.acquire(name), length - 1);
            due.is("nameOf", x.nameOf(length - 1), name);
        }
        due.is("acquire aaaaaa", x.acquire(14900788), 6);
        due.is("acquire zzzzzz", x.acquire(387420488), 7);
        due.is("acquire aaaaaaa", x.acquire(402321277), Due.INVALID);
        due.is("acquire mmmmmmm would wrap around", x.acquire(Due.name("mmmmmmm")), Due.INVALID);
        due.is("acquire dzzzzzz", x.acquire(1937102444), Due.INVALID);
        due.is("acquire a", x.acquire(1), 8);
        due.is("acquire z", x.acquire(26), 9);
    }

    private static void digits(Due due) {
        NameRolls x = new NameRolls();
        Due.write(x, "+a;+z;+ab;+ba;+abcdef;+zzzzzz;");
        due.is("play()", x.play(), 6);
        due.is("find a", x.find(1), 0);
        due.is("find z", x.find(26), 1);
        due.is("find ab", x.find(1 * 27 + 2), 2);
        due.is("find ba", x.find(2 * 27 + 1), 3);
        due.is("find abcdef", x.find(15473895), 4);
        due.is("find zzzzzz", x.find(27 * 27 * 27 * 27 * 27 * 27 - 1), 5);
    }

    private static void noDigitIsZero(Due due) {
        NameRolls x = new NameRolls();
        int[] none = {27, 54, 26 * 27, 27 * 27, 27 * 27 + 1, 28 * 27, 27 * 27 * 27 + 28, 14348907,
            14348908, 26 * 14348907};
        for (int name : none) {
            due.is("acquire(" + name + ")", x.acquire(name), Due.INVALID);
        }
        for (int power = 1, place = 6; place > 1; power *= 27, place--) {
            String call = "acquire zzzzzz with 0 for the letter " + place;
            due.is(call, x.acquire(387420488 - 26 * power), Due.INVALID);
        }
        due.is("acquire zzzzz", x.acquire(387420488 - 26 * 14348907), 0);
        due.is("names", x.count(0), 1);
    }

    private static void isOrder(Due due, NameRolls x, String... order) {
        for (int i = 0; i < order.length; i++) {
            due.is("nameAt(1, " + i + ")", x.nameAt(1, i), Due.name(order[i]));
            int next = i + 1 < order.length ? Due.name(order[i + 1]) : Due.NOT_FOUND;
            due.is("behind " + order[i], x.behind(Due.name(order[i])), next);
        }
    }

    private static void dictionary(Due due) {
        isOrder(due, Due.rolls("za", "z", "b", "azzzzz", "ab", "aaaaaa", "aa", "a"),
            "a", "aa", "aaaaaa", "ab", "azzzzz", "b", "z", "za");
    }

    private static void letterByLetter(Due due) {
        isOrder(due, Due.rolls("zaaaaa", "az", "yz", "aazzzz", "ba", "abaaaa"),
            "aazzzz", "abaaaa", "az", "ba", "yz", "zaaaaa");
    }

    private static void endsAhead(Due due) {
        isOrder(due, Due.rolls("zzzzzz", "zzzz", "zz", "zzzzz", "zzz", "z"),
            "z", "zz", "zzz", "zzzz", "zzzzz", "zzzzzz");
        isOrder(due, Due.rolls("aaaaaa", "a", "aaaa", "aa", "aaaaa", "aaa"),
            "a", "aa", "aaa", "aaaa", "aaaaa", "aaaaaa");
    }

    private static void fortyNumbers(Due due) {
        NameRolls x = new NameRolls();
        for (int i = 0; i < 40; i++) {
            due.is("acquire, name " + i, x.acquire(Due.nth(i)), i);
        }
        due.is("acquire, the 41st name", x.acquire(Due.nth(40)), Due.LIMIT);
        due.is("name of 39", x.numberOf(39, 0), Due.nth(39));
        due.is("numberOf(40, 0)", x.numberOf(40, 0), Due.INVALID);
        due.is("numberOf(-1, 0)", x.numberOf(-1, 0), Due.INVALID);
    }

    private static void nameWithUsers(Due due) {
        NameRolls x = Due.rolls("a");
        due.is("name of 0", x.numberOf(0, 0), 1);
        due.is("users of 0", x.numberOf(0, 1), 1);
        due.is("name of 1", x.numberOf(1, 0), Due.NOT_FOUND);
        due.is("users of 1", x.numberOf(1, 1), 0);
        x.release(0);
        due.is("name of 0, given back", x.numberOf(0, 0), Due.NOT_FOUND);
        due.is("users of 0, given back", x.numberOf(0, 1), 0);
    }

    private static void oneNumber(Due due) {
        NameRolls x = Due.rolls("a", "b");
        x.release(0);
        due.is("acquire b, though 0 is free", x.acquire(2), 1);
        due.is("name of 0", x.numberOf(0, 0), Due.NOT_FOUND);
        due.is("names", x.count(0), 1);
        Due.write(x, "+b;");
        x.play();
        due.is("name of 0", x.numberOf(0, 0), Due.NOT_FOUND);
        due.is("users of b", x.numberOf(1, 1), 3);
    }

    private static void firstYear(Due due) {
        NameRolls x = new NameRolls();
        NameRolls full = Due.full();
        for (int number = 0; number < 40; number++) {
            due.is("year of " + number, x.numberOf(number, 3), 0);
            due.is("year with its first name", full.numberOf(number, 3), 0);
        }
    }

    private static void acquiredAgain(Due due) {
        NameRolls x = Due.rolls("a", "b", "a", "b", "a");
        due.is("users of a", x.numberOf(0, 1), 3);
        due.is("users of b", x.numberOf(1, 1), 2);
        due.is("acquire a", x.acquire(1), 0);
        due.is("users of a", x.numberOf(0, 1), 4);
        due.is("users of b", x.numberOf(1, 1), 2);
        NameRolls full = Due.full();
        due.is("acquire, all numbers have names", full.acquire(Due.nth(39)), 39);
        due.is("users of 39", full.numberOf(39, 1), 2);
    }

    private static void lowestNumber(Due due) {
        NameRolls x = Due.full();
        x.release(39);
        x.release(5);
        x.release(20);
        x.use(4);
        int[] numbers = {5, 20, 39};
        for (int number : numbers) {
            due.is("acquire gets " + number, x.acquire(1 + number % 7) % 100, number);
            due.is("name of it", x.numberOf(number, 0), 1 + number % 7);
            due.is("users of it", x.numberOf(number, 1), 1);
        }
        due.is("acquire when all have names", x.acquire(26), Due.LIMIT);
    }

    private static void yearStays(Due due) {
        NameRolls x = Due.rolls("a");
        x.release(0);
        due.is("year of 0", x.numberOf(0, 3), 1);
        due.is("acquire b", x.acquire(2), 100);
        due.is("year of 0", x.numberOf(0, 3), 1);
        due.is("acquire c", x.acquire(3), 1);
        due.is("year of 1", x.numberOf(1, 3), 0);
    }

    private static void oneUserLess(Due due) {
        NameRolls x = Due.rolls("a", "a", "a", "a", "a", "b");
        x.put(0, 0, 0);
        x.put(0, 1, 0);
        x.release(0);
        due.is("users behind release", x.numberOf(0, 1), 6);
        x.clear(0, 0);
        due.is("users behind clear", x.numberOf(0, 1), 5);
        x.put(0, 1, 1);
        due.is("users behind put of another one", x.numberOf(0, 1), 4);
        Due.write(x, "-a;");
        x.play();
        due.is("users behind an order", x.numberOf(0, 1), 3);
        due.is("name of 0", x.numberOf(0, 0), 1);
        due.is("year of 0", x.numberOf(0, 3), 0);
    }

    private static void lastUser(Due due) {
        NameRolls x = Due.rolls("a", "b", "c", "d", "e");
        x.release(0);
        x.put(0, 0, 1);
        x.release(1);
        x.clear(0, 0);
        x.put(0, 1, 2);
        x.release(2);
        x.put(0, 1, 4);
        Due.write(x, "-d;");
        x.play();
        for (int number = 0; number < 4; number++) {
            due.is("name of " + number, x.numberOf(number, 0), Due.NOT_FOUND);
            due.is("year of " + number, x.numberOf(number, 3), 1);
            due.is("find it", x.find(number + 1), Due.NOT_FOUND);
        }
        due.is("name of 4", x.numberOf(4, 0), 5);
        due.is("year of 4", x.numberOf(4, 3), 0);
    }

    private static void eighteenCells(Due due) {
        NameRolls x = Due.full();
        for (int i = 0; i < 18; i++) {
            due.is("put, cell " + i, x.put(i / 6, i % 6, 39 - i), 2);
        }
        for (int i = 0; i < 18; i++) {
            due.is("cellOf, cell " + i, x.cellOf(i / 6, i % 6), 39 - i);
        }
        int[][] none = {{-1, 0}, {3, 0}, {0, -1}, {0, 6}, {2, 6}, {3, 5}, {-1, 5}};
        for (int[] at : none) {
            String where = "(" + at[0] + ", " + at[1] + ")";
            due.is("cellOf" + where, x.cellOf(at[0], at[1]), Due.INVALID);
        }
        due.is("cells with numbers", x.count(2), 18);
    }

    private static void cellIsUser(Due due) {
        NameRolls x = Due.rolls("a");
        due.is("cellOf(1, 3), empty", x.cellOf(1, 3), Due.NOT_FOUND);
        x.put(1, 3, 0);
        due.is("cellOf(1, 3)", x.cellOf(1, 3), 0);
        due.is("users", x.numberOf(0, 1), 2);
        x.release(0);
        due.is("name, the cell its one user", x.numberOf(0, 0), 1);
        due.is("users", x.numberOf(0, 1), 1);
    }
}
