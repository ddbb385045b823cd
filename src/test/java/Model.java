import java.util.ArrayDeque;
import java.util.ArrayList;
import java.util.Comparator;
import java.util.HashMap;
import java.util.List;
import java.util.Map;
import java.util.regex.Matcher;
import java.util.regex.Pattern;

/** The document once more, told slowly and with the Java library, to compare answers with. */
final class Model {
    private static final Pattern ORDER =
        Pattern.compile("\\+([a-z]+);|-([a-z]+);|=([0-9]),([0-9]),([a-z]+);|!([0-9]);");

    /** A number with its name, null for none. */
    private record Entry(String name, int users, int year) { }

    /** What a compaction made of a number with a year. */
    private record Move(int number, int yearThen, int to, int yearBehind) { }

    private record Passage(int rule, int moved, Map<Integer, Move> moves) { }

    /** A fault of the text, or how many orders it has. */
    private record Outcome(State state, int orders, int position, int reason, int cause) { }

    private static final class State {
        List<Entry> entries = new ArrayList<>();
        Map<Integer, Integer> cells = new HashMap<>();
        List<Passage> passages = new ArrayList<>();
        int gained;
        int lost;

        State copy() {
            State copy = new State();
            copy.entries = new ArrayList<>(entries);
            copy.cells = new HashMap<>(cells);
            copy.passages = new ArrayList<>(passages);
            copy.gained = gained;
            copy.lost = lost;
            return copy;
        }

        int numberOfName(String name) {
            for (int i = 0; i < 40; i++) {
                if (name.equals(entries.get(i).name)) {
                    return i;
                }
            }
            return -1;
        }

        int lowestFree() {
            for (int i = 0; i < 40; i++) {
                if (entries.get(i).name == null) {
                    return i;
                }
            }
            return -1;
        }

        int tag(int number) {
            return 1000000 * passages.size() + 100 * entries.get(number).year + number;
        }

        long cellsWith(int number) {
            return cells.values().stream().filter(n -> n == number).count();
        }

        List<Integer> inOrder(int rule) {
            List<Integer> order = new ArrayList<>();
            for (int i = 0; i < 40; i++) {
                if (entries.get(i).name != null) {
                    order.add(i);
                }
            }
            if (rule == 1) {
                order.sort(Comparator.comparing(n -> entries.get(n).name));
            }
            if (rule == 2) {
                order.sort(Comparator.comparing(n -> -entries.get(n).users));
            }
            return order;
        }

        boolean addUser(int number) {
            Entry e = entries.get(number);
            if (e.users == 999) {
                return false;
            }
            entries.set(number, new Entry(e.name, e.users + 1, e.year));
            return true;
        }

        void dropUser(int number) {
            Entry e = entries.get(number);
            if (e.users > 1) {
                entries.set(number, new Entry(e.name, e.users - 1, e.year));
            } else {
                entries.set(number, new Entry(null, 0, e.year + 1));
                lost++;
            }
        }

        boolean acquire(String name) {
            int number = numberOfName(name);
            if (number >= 0) {
                return addUser(number);
            }
            number = lowestFree();
            if (number < 0) {
                return false;
            }
            entries.set(number, new Entry(name, 1, entries.get(number).year));
            gained++;
            return true;
        }

        boolean release(int number) {
            if (number < 0 || entries.get(number).users == cellsWith(number)) {
                return false;
            }
            dropUser(number);
            return true;
        }

        boolean put(int table, int cell, int number) {
            if (number < 0 || !addUser(number)) {
                return false;
            }
            Integer old = cells.put(10 * table + cell, number);
            if (old != null) {
                dropUser(old);
            }
            return true;
        }

        boolean compact(int rule) {
            if (passages.size() == 999) {
                return false;
            }
            List<Integer> order = inOrder(rule);
            List<Entry> made = new ArrayList<>();
            int moved = 0;
            for (int i = 0; i < 40; i++) {
                Entry here = entries.get(i);
                Entry next = i < order.size() ? entries.get(order.get(i)) : new Entry(null, 0, 0);
                boolean same = String.valueOf(here.name).equals(String.valueOf(next.name));
                made.add(new Entry(next.name, next.users, here.year + (same ? 0 : 1)));
                moved += i < order.size() && order.get(i) != i ? 1 : 0;
            }
            Map<Integer, Move> moves = new HashMap<>();
            for (int to = 0; to < order.size(); to++) {
                int from = order.get(to);
                moves.put(from, new Move(from, entries.get(from).year, to, made.get(to).year));
            }
            cells.replaceAll((place, number) -> moves.get(number).to);
            passages.add(new Passage(rule, moved, moves));
            entries = made;
            return true;
        }

        /** The number in the present epoch, or minus the reason. */
        int standing(int tag) {
            if (tag < 0 || tag % 100 > 39 || tag / 1000000 > passages.size()) {
                return -1;
            }
            int number = tag % 100;
            int year = tag % 1000000 / 100;
            if (passages.size() - tag / 1000000 > 3) {
                return -2;
            }
            for (Passage p : passages.subList(tag / 1000000, passages.size())) {
                Move move = p.moves.get(number);
                if (move == null || move.yearThen != year) {
                    return -3;
                }
                number = move.to;
                year = move.yearBehind;
            }
            Entry e = entries.get(number);
            return e.name != null && e.year == year ? number : -4;
        }
    }

    private State now = new State();
    private final ArrayDeque<State> history = new ArrayDeque<>();
    private String text = "";

    Model() {
        for (int i = 0; i < 40; i++) {
            now.entries.add(new Entry(null, 0, 0));
        }
    }

    private static String letters(int name) {
        StringBuilder letters = new StringBuilder();
        for (long rest = name; rest != 0; rest /= 27) {
            if (rest < 0 || rest % 27 == 0) {
                return null;
            }
            letters.append((char) ('a' + rest % 27 - 1));
        }
        return letters.length() == 0 || letters.length() > 6 ? null : letters.reverse().toString();
    }

    private static boolean out(int value, int highest) {
        return value < 0 || value > highest;
    }

    private void change(State next) {
        history.push(now);
        if (history.size() > 4) {
            history.removeLast();
        }
        now = next;
    }

    int acquire(int name) {
        String letters = letters(name);
        if (letters == null) {
            return Due.INVALID;
        }
        State next = now.copy();
        if (!next.acquire(letters)) {
            return Due.LIMIT;
        }
        change(next);
        return now.tag(now.numberOfName(letters));
    }

    int use(int tag) {
        int number = now.standing(tag);
        if (number < 0) {
            return Due.STALE;
        }
        State next = now.copy();
        if (!next.addUser(number)) {
            return Due.LIMIT;
        }
        change(next);
        return now.entries.get(number).users;
    }

    int release(int tag) {
        int number = now.standing(tag);
        if (number < 0) {
            return Due.STALE;
        }
        State next = now.copy();
        if (!next.release(number)) {
            return Due.NOT_POSSIBLE;
        }
        change(next);
        return now.entries.get(number).users;
    }

    int follow(int tag) {
        int number = now.standing(tag);
        return number < 0 ? Due.STALE : now.tag(number);
    }

    int nameOf(int tag) {
        int number = now.standing(tag);
        return number < 0 ? Due.STALE : Due.name(now.entries.get(number).name);
    }

    int why(int tag) {
        return Math.max(0, -now.standing(tag));
    }

    int put(int table, int cell, int tag) {
        if (out(table, 2) || out(cell, 5)) {
            return Due.INVALID;
        }
        int number = now.standing(tag);
        if (number < 0) {
            return Due.STALE;
        }
        State next = now.copy();
        if (!next.put(table, cell, number)) {
            return Due.LIMIT;
        }
        change(next);
        return now.entries.get(number).users;
    }

    int clear(int table, int cell) {
        if (out(table, 2) || out(cell, 5)) {
            return Due.INVALID;
        }
        State next = now.copy();
        Integer number = next.cells.remove(10 * table + cell);
        if (number == null) {
            return Due.NOT_POSSIBLE;
        }
        next.dropUser(number);
        change(next);
        return now.entries.get(number).users;
    }

    int cellOf(int table, int cell) {
        if (out(table, 2) || out(cell, 5)) {
            return Due.INVALID;
        }
        Integer number = now.cells.get(10 * table + cell);
        return number == null ? Due.NOT_FOUND : now.tag(number);
    }

    int compact(int rule) {
        if (out(rule, 2)) {
            return Due.INVALID;
        }
        State next = now.copy();
        if (!next.compact(rule)) {
            return Due.LIMIT;
        }
        change(next);
        return now.passages.get(now.passages.size() - 1).moved;
    }

    int numberOf(int number, int what) {
        if (out(number, 39) || out(what, 4)) {
            return Due.INVALID;
        }
        Entry e = now.entries.get(number);
        if (e.name == null && (what == 0 || what == 4)) {
            return Due.NOT_FOUND;
        }
        return switch (what) {
            case 0 -> Due.name(e.name);
            case 1 -> e.users;
            case 2 -> (int) now.cellsWith(number);
            case 3 -> e.year;
            default -> now.tag(number);
        };
    }

    int find(int name) {
        String letters = letters(name);
        if (letters == null) {
            return Due.INVALID;
        }
        int number = now.numberOfName(letters);
        return number < 0 ? Due.NOT_FOUND : number;
    }

    int nameAt(int rule, int place) {
        if (out(rule, 2) || place < 0) {
            return Due.INVALID;
        }
        List<Integer> order = now.inOrder(rule);
        boolean there = place < order.size();
        return there ? Due.name(now.entries.get(order.get(place)).name) : Due.NOT_FOUND;
    }

    int beginning(int name) {
        String letters = letters(name);
        if (letters == null) {
            return Due.INVALID;
        }
        return (int) now.entries.stream()
            .filter(e -> e.name != null && e.name.startsWith(letters)).count();
    }

    int behind(int name) {
        String letters = letters(name);
        if (letters == null) {
            return Due.INVALID;
        }
        return now.entries.stream().map(Entry::name)
            .filter(n -> n != null && n.compareTo(letters) > 0)
            .min(Comparator.naturalOrder()).map(Due::name).orElse(Due.NOT_FOUND);
    }

    int wouldBe(int number, int rule) {
        if (out(number, 39) || out(rule, 2)) {
            return Due.INVALID;
        }
        int place = now.inOrder(rule).indexOf(number);
        return place < 0 ? Due.NOT_FOUND : place;
    }

    int compaction(int index, int what) {
        if (out(index, 2) || out(what, 3)) {
            return Due.INVALID;
        }
        int ended = now.passages.size() - 1 - index;
        if (ended < 0) {
            return Due.NOT_FOUND;
        }
        Passage p = now.passages.get(ended);
        return switch (what) {
            case 0 -> p.rule;
            case 1 -> p.moves.size();
            case 2 -> p.moved;
            default -> (int) p.moves.values().stream()
                .map(m -> 1000000 * ended + 100 * m.yearThen + m.number)
                .filter(tag -> now.standing(tag) >= 0).count();
        };
    }

    int count(int what) {
        List<Integer> order = now.inOrder(0);
        int top = order.isEmpty() ? 0 : order.get(order.size() - 1) + 1;
        return switch (what) {
            case 0 -> order.size();
            case 1 -> now.entries.stream().mapToInt(Entry::users).sum();
            case 2 -> now.cells.size();
            case 3 -> now.passages.size();
            case 4 -> top;
            case 5 -> top - order.size();
            case 6 -> now.gained;
            case 7 -> now.lost;
            case 8 -> Math.min(3, now.passages.size());
            case 9 -> history.size();
            case 10 -> text.length();
            default -> Due.INVALID;
        };
    }

    int undo() {
        if (history.isEmpty()) {
            return Due.NOT_POSSIBLE;
        }
        now = history.pop();
        return history.size();
    }

    int type(int character) {
        if (character < 32 || character > 126) {
            return Due.INVALID;
        }
        if (text.length() == 60) {
            return Due.LIMIT;
        }
        text += (char) character;
        return text.length();
    }

    int clearText() {
        int had = text.length();
        text = "";
        return had;
    }

    int fault(int what) {
        if (out(what, 2)) {
            return Due.INVALID;
        }
        Outcome outcome = tryText();
        if (outcome.reason == 0 || what == 2 && outcome.reason == 3) {
            return Due.NOT_FOUND;
        }
        return what == 0 ? outcome.position : what == 1 ? outcome.reason : outcome.cause;
    }

    int play() {
        Outcome outcome = tryText();
        if (outcome.reason != 0) {
            return Due.NOT_POSSIBLE;
        }
        change(outcome.state);
        return outcome.orders;
    }

    private Outcome tryText() {
        State state = now.copy();
        int orders = 0;
        for (int at = 0; at < text.length(); orders++) {
            Matcher order = ORDER.matcher(text).region(at, text.length());
            if (!order.lookingAt()) {
                return new Outcome(state, orders, at, 1, breaksOff(text.substring(at)));
            }
            int wrong = wrongRange(order);
            if (wrong >= 0) {
                return new Outcome(state, orders, at, 2, wrong);
            }
            if (!done(state, order)) {
                return new Outcome(state, orders, at, 3, 0);
            }
            at = order.end();
        }
        return new Outcome(state, orders, 0, 0, 0);
    }

    /** How many characters could be the beginning of an order. */
    private static int breaksOff(String rest) {
        int good = 0;
        for (int length = 1; length <= rest.length(); length++) {
            Matcher beginning = ORDER.matcher(rest.substring(0, length));
            if (!beginning.matches() && beginning.hitEnd()) {
                good = length;
            } else {
                break;
            }
        }
        return good;
    }

    private static int wrongRange(Matcher order) {
        if (order.group(3) != null && order.group(3).compareTo("2") > 0) {
            return 0;
        }
        if (order.group(4) != null && order.group(4).compareTo("5") > 0) {
            return 1;
        }
        if (order.group(6) != null && order.group(6).compareTo("2") > 0) {
            return 2;
        }
        for (int group : new int[] {1, 2, 5}) {
            if (order.group(group) != null && order.group(group).length() > 6) {
                return 3;
            }
        }
        return -1;
    }

    private static boolean done(State state, Matcher order) {
        switch (order.group().charAt(0)) {
            case '+':
                return state.acquire(order.group(1));
            case '-':
                return state.release(state.numberOfName(order.group(2)));
            case '=':
                int table = Integer.parseInt(order.group(3));
                int cell = Integer.parseInt(order.group(4));
                return state.put(table, cell, state.numberOfName(order.group(5)));
            default:
                return state.compact(Integer.parseInt(order.group(6)));
        }
    }
}
