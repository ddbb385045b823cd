import java.util.Arrays;

/** Rolls of names that get numbers, told by tags that are followed through compactions. */
public final class NameRolls {

    public static final int INVALID_ARGUMENT = -1000001;
    public static final int NOT_POSSIBLE = -1000002;
    public static final int LIMIT_REACHED = -1000003;
    public static final int NOT_FOUND = -1000004;
    public static final int STALE = -1000005;

    private static final int NUMBERS = 40;
    private static final int TABLES = 3;
    private static final int TABLE_CELLS = 6;
    private static final int RULES = 3;
    private static final int KEPT = 3;
    private static final int STATES = 4;
    private static final int MOST_USERS = 999;
    private static final int LAST_EPOCH = 999;
    private static final int TEXT_ROOM = 60;
    private static final int FIRST_SIGN = 32;
    private static final int LAST_SIGN = 126;

    private static final int MOST_LETTERS = 6;
    private static final int BASE = 27;
    private static final int LAST_NAME = 387420488;
    private static final int FIRST_OF_MOST_LETTERS = 14348907;

    private static final int EPOCH_STEP = 1000000;
    private static final int YEAR_STEP = 100;
    private static final int YEARS = 10000;

    private static final int NONE = -1;
    private static final int NO_TAG = 1;
    private static final int NOT_KEPT = 2;
    private static final int BROKEN_ON_THE_WAY = 3;
    private static final int NOT_NOW = 4;

    private static final int BAD_FORM = 1;
    private static final int BAD_RANGE = 2;
    private static final int BAD_STATE = 3;

    private final Roll now = new Roll();
    private final Roll[] past = new Roll[STATES];
    private int states;
    private final Text text = new Text();
    private final Player player = new Player();

    public NameRolls() {
        for (int i = 0; i < STATES; i++) {
            past[i] = new Roll();
        }
    }

    // ---- names and tags

    public int acquire(int name) {
        if (!isName(name)) {
            return INVALID_ARGUMENT;
        }
        if (!now.hasRoomFor(name)) {
            return LIMIT_REACHED;
        }
        recordState();
        return now.tagOf(now.enter(name));
    }

    public int use(int tag) {
        int number = now.standing(tag);
        if (number < 0) {
            return STALE;
        }
        if (!now.hasRoomForUser(number)) {
            return LIMIT_REACHED;
        }
        recordState();
        return now.addUser(number);
    }

    public int release(int tag) {
        int number = now.standing(tag);
        if (number < 0) {
            return STALE;
        }
        if (!now.hasFreeUser(number)) {
            return NOT_POSSIBLE;
        }
        recordState();
        return now.giveBack(number);
    }

    public int follow(int tag) {
        int number = now.standing(tag);
        return number < 0 ? STALE : now.tagOf(number);
    }

    public int nameOf(int tag) {
        int number = now.standing(tag);
        return number < 0 ? STALE : now.names[number];
    }

    public int why(int tag) {
        int number = now.standing(tag);
        return number < 0 ? -number : 0;
    }

    // ---- tables, compactions

    public int put(int table, int cell, int tag) {
        if (!isCell(table, cell)) {
            return INVALID_ARGUMENT;
        }
        int number = now.standing(tag);
        if (number < 0) {
            return STALE;
        }
        if (!now.hasRoomForUser(number)) {
            return LIMIT_REACHED;
        }
        recordState();
        return now.fillCell(cellIndex(table, cell), number);
    }

    public int clear(int table, int cell) {
        if (!isCell(table, cell)) {
            return INVALID_ARGUMENT;
        }
        if (now.cells[cellIndex(table, cell)] == NONE) {
            return NOT_POSSIBLE;
        }
        recordState();
        return now.emptyCell(cellIndex(table, cell));
    }

    public int cellOf(int table, int cell) {
        if (!isCell(table, cell)) {
            return INVALID_ARGUMENT;
        }
        int number = now.cells[cellIndex(table, cell)];
        return number == NONE ? NOT_FOUND : now.tagOf(number);
    }

    public int compact(int rule) {
        if (!isBelow(rule, RULES)) {
            return INVALID_ARGUMENT;
        }
        if (!now.hasNextEpoch()) {
            return LIMIT_REACHED;
        }
        recordState();
        return now.giveAnew(rule);
    }

    // ---- what there is

    public int numberOf(int number, int what) {
        if (!isBelow(number, NUMBERS) || !isBelow(what, 5)) {
            return INVALID_ARGUMENT;
        }
        boolean named = now.names[number] != 0;
        switch (what) {
            case 0:
                return named ? now.names[number] : NOT_FOUND;
            case 1:
                return now.users[number];
            case 2:
                return now.cellsWith(number);
            case 3:
                return now.years[number];
            default:
                return named ? now.tagOf(number) : NOT_FOUND;
        }
    }

    public int find(int name) {
        if (!isName(name)) {
            return INVALID_ARGUMENT;
        }
        int number = now.numberWith(name);
        return number == NONE ? NOT_FOUND : number;
    }

    public int nameAt(int rule, int place) {
        if (!isBelow(rule, RULES) || place < 0) {
            return INVALID_ARGUMENT;
        }
        for (int i = 0; i < NUMBERS; i++) {
            if (now.names[i] != 0 && now.placeOf(i, rule) == place) {
                return now.names[i];
            }
        }
        return NOT_FOUND;
    }

    public int beginning(int name) {
        if (!isName(name)) {
            return INVALID_ARGUMENT;
        }
        int found = 0;
        for (int i = 0; i < NUMBERS; i++) {
            if (now.names[i] != 0 && beginsWith(now.names[i], name)) {
                found++;
            }
        }
        return found;
    }

    public int behind(int name) {
        if (!isName(name)) {
            return INVALID_ARGUMENT;
        }
        int key = orderKey(name);
        int first = 0;
        for (int i = 0; i < NUMBERS; i++) {
            int other = now.names[i];
            boolean isBehind = other != 0 && orderKey(other) > key;
            if (isBehind && (first == 0 || orderKey(other) < orderKey(first))) {
                first = other;
            }
        }
        return first == 0 ? NOT_FOUND : first;
    }

    public int wouldBe(int number, int rule) {
        if (!isBelow(number, NUMBERS) || !isBelow(rule, RULES)) {
            return INVALID_ARGUMENT;
        }
        return now.names[number] == 0 ? NOT_FOUND : now.placeOf(number, rule);
    }

    public int compaction(int index, int what) {
        if (!isBelow(index, KEPT) || !isBelow(what, 4)) {
            return INVALID_ARGUMENT;
        }
        if (index >= now.epoch) {
            return NOT_FOUND;
        }
        int ended = now.epoch - 1 - index;
        switch (what) {
            case 0:
                return now.rules[ended % KEPT];
            case 1:
                return now.namesThen[ended % KEPT];
            case 2:
                return now.movedThen[ended % KEPT];
            default:
                return now.stillStanding(ended);
        }
    }

    public int count(int what) {
        switch (what) {
            case 0:
                return now.namesBelow(NUMBERS);
            case 1:
                return now.usersOfAll();
            case 2:
                return now.cells.length - now.cellsWith(NONE);
            case 3:
                return now.epoch;
            case 4:
                return now.top();
            case 5:
                return now.top() - now.namesBelow(now.top());
            case 6:
                return now.gained;
            case 7:
                return now.lost;
            case 8:
                return Math.min(now.epoch, KEPT);
            case 9:
                return states;
            case 10:
                return text.length;
            default:
                return INVALID_ARGUMENT;
        }
    }

    public int undo() {
        if (states <= 0 || states > STATES) {
            return NOT_POSSIBLE;
        }
        states--;
        now.copyFrom(past[states]);
        return states;
    }

    // ---- texts

    public int type(int character) {
        if (character < FIRST_SIGN || character > LAST_SIGN) {
            return INVALID_ARGUMENT;
        }
        if (text.length >= TEXT_ROOM) {
            return LIMIT_REACHED;
        }
        return text.append((char) character);
    }

    public int clearText() {
        int had = text.length;
        text.length = 0;
        return had;
    }

    public int fault(int what) {
        if (!isBelow(what, 3)) {
            return INVALID_ARGUMENT;
        }
        player.tryOn(now, text);
        if (player.reason == 0) {
            return NOT_FOUND;
        }
        switch (what) {
            case 0:
                return player.start;
            case 1:
                return player.reason;
            default:
                return player.reason == BAD_STATE ? NOT_FOUND : player.cause;
        }
    }

    public int play() {
        player.tryOn(now, text);
        if (player.reason != 0) {
            return NOT_POSSIBLE;
        }
        recordState();
        now.copyFrom(player.trial);
        return player.orders;
    }

    // The oldest roll is used again for the newest state, so that no call makes objects.
    private void recordState() {
        if (states >= STATES) {
            Roll oldest = past[0];
            for (int i = 1; i < STATES; i++) {
                past[i - 1] = past[i];
            }
            past[STATES - 1] = oldest;
            states = STATES - 1;
        }
        past[states].copyFrom(now);
        states++;
    }

    private static boolean isBelow(int value, int bound) {
        return value >= 0 && value < bound;
    }

    private static boolean isCell(int table, int cell) {
        return isBelow(table, TABLES) && isBelow(cell, TABLE_CELLS);
    }

    private static int cellIndex(int table, int cell) {
        return table * TABLE_CELLS + cell;
    }

    private static boolean isName(int name) {
        if (name < 1 || name > LAST_NAME) {
            return false;
        }
        int rest = name;
        for (int i = 0; i < MOST_LETTERS && rest > 0; i++) {
            if (rest % BASE == 0) {
                return false;
            }
            rest /= BASE;
        }
        return true;
    }

    // With zeros for the letters that it lacks, a name is compared as in a dictionary.
    private static int orderKey(int name) {
        int key = name;
        for (int i = 1; i < MOST_LETTERS && key < FIRST_OF_MOST_LETTERS; i++) {
            key *= BASE;
        }
        return key;
    }

    private static boolean beginsWith(int name, int letters) {
        int rest = name;
        for (int i = 1; i < MOST_LETTERS && rest > letters; i++) {
            rest /= BASE;
        }
        return rest == letters;
    }

    /** All that a change records: the numbers, the cells and the compactions that are kept. */
    private static final class Roll {
        /** 0 where a number has no name. */
        final int[] names = new int[NUMBERS];
        final int[] users = new int[NUMBERS];
        final int[] years = new int[NUMBERS];
        /** The number in each cell, NONE where it is empty. */
        final int[] cells = new int[TABLES * TABLE_CELLS];
        int epoch;
        int gained;
        int lost;

        // The compaction that ended epoch e has the row e % KEPT of these.
        final int[] rules = new int[KEPT];
        final int[] namesThen = new int[KEPT];
        final int[] movedThen = new int[KEPT];
        final int[] yearsThen = new int[KEPT * NUMBERS];
        /** By the number ahead of the compaction, NONE where it had no name. */
        final int[] numbersBehind = new int[KEPT * NUMBERS];
        /** By the number behind the compaction. */
        final int[] yearsBehind = new int[KEPT * NUMBERS];

        // Room for a compaction to work in; no part of the state.
        private final int[] oldNames = new int[NUMBERS];
        private final int[] oldUsers = new int[NUMBERS];

        Roll() {
            Arrays.fill(cells, NONE);
        }

        void copyFrom(Roll other) {
            System.arraycopy(other.names, 0, names, 0, names.length);
            System.arraycopy(other.users, 0, users, 0, users.length);
            System.arraycopy(other.years, 0, years, 0, years.length);
            System.arraycopy(other.cells, 0, cells, 0, cells.length);
            epoch = other.epoch;
            gained = other.gained;
            lost = other.lost;
            System.arraycopy(other.rules, 0, rules, 0, rules.length);
            System.arraycopy(other.namesThen, 0, namesThen, 0, namesThen.length);
            System.arraycopy(other.movedThen, 0, movedThen, 0, movedThen.length);
            System.arraycopy(other.yearsThen, 0, yearsThen, 0, yearsThen.length);
            System.arraycopy(other.numbersBehind, 0, numbersBehind, 0, numbersBehind.length);
            System.arraycopy(other.yearsBehind, 0, yearsBehind, 0, yearsBehind.length);
        }

        int tagOf(int number) {
            return isBelow(number, NUMBERS) ? tagIn(epoch, years[number], number) : NOT_FOUND;
        }

        private static int tagIn(int epoch, int year, int number) {
            return EPOCH_STEP * epoch + YEAR_STEP * year + number;
        }

        /** The number that a tag tells now, or the negative reason why it is stale. */
        int standing(int tag) {
            int from = tag / EPOCH_STEP;
            int year = tag / YEAR_STEP % YEARS;
            int number = tag % YEAR_STEP;
            if (tag < 0 || number >= NUMBERS || from > epoch) {
                return -NO_TAG;
            }
            if (from < epoch - KEPT) {
                return -NOT_KEPT;
            }
            for (int ended = from; ended < epoch; ended++) {
                int row = ended % KEPT * NUMBERS;
                int next = numbersBehind[row + number];
                if (!isBelow(next, NUMBERS) || yearsThen[row + number] != year) {
                    return -BROKEN_ON_THE_WAY;
                }
                number = next;
                year = yearsBehind[row + next];
            }
            return names[number] == 0 || years[number] != year ? -NOT_NOW : number;
        }

        int numberWith(int name) {
            for (int i = 0; i < NUMBERS; i++) {
                if (names[i] == name) {
                    return i;
                }
            }
            return NONE;
        }

        boolean hasRoomFor(int name) {
            int number = numberWith(name);
            return number == NONE ? numberWith(0) != NONE : hasRoomForUser(number);
        }

        /** Acquires a name that there is room for; answers its number. */
        int enter(int name) {
            int number = numberWith(name);
            if (number == NONE) {
                number = numberWith(0);
                if (number == NONE) {
                    return NONE;
                }
                names[number] = name;
                gained++;
            }
            addUser(number);
            return number;
        }

        boolean hasRoomForUser(int number) {
            return isBelow(number, NUMBERS) && users[number] < MOST_USERS;
        }

        int addUser(int number) {
            if (!isBelow(number, NUMBERS)) {
                return 0;
            }
            users[number]++;
            return users[number];
        }

        /** Whether a number has a user that is no cell of a table. */
        boolean hasFreeUser(int number) {
            return isBelow(number, NUMBERS) && users[number] > cellsWith(number);
        }

        int giveBack(int number) {
            if (!isBelow(number, NUMBERS) || users[number] <= 0) {
                return 0;
            }
            users[number]--;
            if (users[number] == 0) {
                names[number] = 0;
                years[number]++;
                lost++;
            }
            return users[number];
        }

        /** The new number is used before the old one is given back: both may be the same. */
        int fillCell(int index, int number) {
            if (!isBelow(index, cells.length) || !isBelow(number, NUMBERS)) {
                return 0;
            }
            addUser(number);
            giveBack(cells[index]);
            cells[index] = number;
            return users[number];
        }

        int emptyCell(int index) {
            if (!isBelow(index, cells.length)) {
                return 0;
            }
            int number = cells[index];
            cells[index] = NONE;
            return giveBack(number);
        }

        int cellsWith(int number) {
            int found = 0;
            for (int i = 0; i < cells.length; i++) {
                if (cells[i] == number) {
                    found++;
                }
            }
            return found;
        }

        /** How many numbers with names are ahead of one, by the order of a rule. */
        int placeOf(int number, int rule) {
            int ahead = 0;
            for (int i = 0; i < NUMBERS; i++) {
                if (names[i] != 0 && isAhead(i, number, rule)) {
                    ahead++;
                }
            }
            return ahead;
        }

        private boolean isAhead(int one, int other, int rule) {
            if (!isBelow(one, NUMBERS) || !isBelow(other, NUMBERS)) {
                return false;
            }
            if (rule == 1) {
                return orderKey(names[one]) < orderKey(names[other]);
            }
            if (rule == 2 && users[one] != users[other]) {
                return users[one] > users[other];
            }
            return one < other;
        }

        boolean hasNextEpoch() {
            return epoch < LAST_EPOCH;
        }

        /** Makes a compaction; answers how many names have got another number. */
        int giveAnew(int rule) {
            int kept = epoch % KEPT;
            int row = kept * NUMBERS;
            int moved = 0;
            for (int i = 0; i < NUMBERS; i++) {
                int next = names[i] == 0 ? NONE : placeOf(i, rule);
                numbersBehind[row + i] = next;
                if (next != NONE && next != i) {
                    moved++;
                }
            }
            rules[kept] = rule;
            namesThen[kept] = namesBelow(NUMBERS);
            movedThen[kept] = moved;
            System.arraycopy(years, 0, yearsThen, row, NUMBERS);
            moveNames(row);
            moveCells(row);
            System.arraycopy(years, 0, yearsBehind, row, NUMBERS);
            epoch++;
            return moved;
        }

        private void moveNames(int row) {
            System.arraycopy(names, 0, oldNames, 0, NUMBERS);
            System.arraycopy(users, 0, oldUsers, 0, NUMBERS);
            Arrays.fill(names, 0);
            Arrays.fill(users, 0);
            for (int i = 0; i < NUMBERS; i++) {
                int next = numbersBehind[row + i];
                if (isBelow(next, NUMBERS)) {
                    names[next] = oldNames[i];
                    users[next] = oldUsers[i];
                }
            }
            for (int i = 0; i < NUMBERS; i++) {
                if (names[i] != oldNames[i]) {
                    years[i]++;
                }
            }
        }

        private void moveCells(int row) {
            for (int i = 0; i < cells.length; i++) {
                if (isBelow(cells[i], NUMBERS)) {
                    cells[i] = numbersBehind[row + cells[i]];
                }
            }
        }

        /** Of the tags that stood when an epoch ended, how many stand now. */
        int stillStanding(int ended) {
            if (ended < 0) {
                return 0;
            }
            int row = ended % KEPT * NUMBERS;
            int found = 0;
            for (int i = 0; i < NUMBERS; i++) {
                boolean stoodThen = numbersBehind[row + i] != NONE;
                if (stoodThen && standing(tagIn(ended, yearsThen[row + i], i)) >= 0) {
                    found++;
                }
            }
            return found;
        }

        int namesBelow(int bound) {
            int found = 0;
            for (int i = 0; i < NUMBERS && i < bound; i++) {
                if (names[i] != 0) {
                    found++;
                }
            }
            return found;
        }

        int usersOfAll() {
            int sum = 0;
            for (int i = 0; i < NUMBERS; i++) {
                sum += users[i];
            }
            return sum;
        }

        /** The highest number with a name, plus 1. */
        int top() {
            for (int i = NUMBERS; i > 0; i--) {
                if (names[i - 1] != 0) {
                    return i;
                }
            }
            return 0;
        }
    }

    /** The characters that were typed. */
    private static final class Text {
        private final char[] signs = new char[TEXT_ROOM];
        int length;

        int append(char sign) {
            if (isBelow(length, TEXT_ROOM)) {
                signs[length] = sign;
                length++;
            }
            return length;
        }

        /** The character at a position, 0 behind the end of the text. */
        char signAt(int position) {
            return isBelow(position, TEXT_ROOM) && position < length ? signs[position] : 0;
        }
    }

    /** Reads the orders of a text one by one and does each on a roll of its own. */
    private static final class Player {
        final Roll trial = new Roll();
        int orders;
        /** Of the fault, 0 if there is none. */
        int reason;
        int cause;
        /** The first character of the order in hand. */
        int start;

        private int at;
        private char kind;
        private int table;
        private int cell;
        private int rule;
        private int letters;
        private int name;

        void tryOn(Roll roll, Text text) {
            trial.copyFrom(roll);
            orders = 0;
            reason = 0;
            at = 0;
            for (int i = 0; i < TEXT_ROOM && at < text.length; i++) {
                start = at;
                readOrder(text);
                checkRanges();
                carryOut();
                if (reason != 0) {
                    return;
                }
                orders++;
            }
        }

        private void readOrder(Text text) {
            kind = text.signAt(at);
            table = 0;
            cell = 0;
            rule = 0;
            letters = 0;
            name = 0;
            switch (kind) {
                case '+':
                case '-':
                    at++;
                    readLetters(text);
                    break;
                case '=':
                    at++;
                    table = readDigit(text);
                    readSign(text, ',');
                    cell = readDigit(text);
                    readSign(text, ',');
                    readLetters(text);
                    break;
                case '!':
                    at++;
                    rule = readDigit(text);
                    break;
                default:
                    fail(BAD_FORM, 0);
                    break;
            }
            readSign(text, ';');
        }

        private int readDigit(Text text) {
            char sign = text.signAt(at);
            if (sign < '0' || sign > '9') {
                fail(BAD_FORM, at - start);
                return 0;
            }
            at++;
            return sign - '0';
        }

        private void readSign(Text text, char due) {
            if (text.signAt(at) != due) {
                fail(BAD_FORM, at - start);
                return;
            }
            at++;
        }

        private void readLetters(Text text) {
            for (int i = 0; i < TEXT_ROOM; i++) {
                char sign = text.signAt(at);
                if (sign < 'a' || sign > 'z') {
                    break;
                }
                letters++;
                if (letters <= MOST_LETTERS) {
                    name = name * BASE + (sign - 'a' + 1);
                }
                at++;
            }
            if (letters == 0) {
                fail(BAD_FORM, at - start);
            }
        }

        private void checkRanges() {
            if (table >= TABLES) {
                fail(BAD_RANGE, 0);
            }
            if (cell >= TABLE_CELLS) {
                fail(BAD_RANGE, 1);
            }
            if (rule >= RULES) {
                fail(BAD_RANGE, 2);
            }
            if (letters > MOST_LETTERS) {
                fail(BAD_RANGE, 3);
            }
        }

        private void carryOut() {
            if (reason != 0) {
                return;
            }
            int number = trial.numberWith(name);
            if (!canCarryOut(number)) {
                fail(BAD_STATE, 0);
                return;
            }
            switch (kind) {
                case '+':
                    trial.enter(name);
                    break;
                case '-':
                    trial.giveBack(number);
                    break;
                case '=':
                    trial.fillCell(cellIndex(table, cell), number);
                    break;
                default:
                    trial.giveAnew(rule);
                    break;
            }
        }

        private boolean canCarryOut(int number) {
            switch (kind) {
                case '+':
                    return trial.hasRoomFor(name);
                case '-':
                    return trial.hasFreeUser(number);
                case '=':
                    return trial.hasRoomForUser(number);
                default:
                    return trial.hasNextEpoch();
            }
        }

        // What is read behind the first fault of an order is of no account.
        private void fail(int why, int where) {
            if (reason == 0) {
                reason = why;
                cause = where;
            }
        }
    }
}
