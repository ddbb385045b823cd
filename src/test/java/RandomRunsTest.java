import java.util.ArrayList;
import java.util.List;
import java.util.Random;

/** Runs of 512 calls drawn from fixed seeds, each answer compared with the model's. */
public final class RandomRunsTest {
    private static final Due due = new Due("RandomRunsTest");
    private static final int RUNS = 1500;
    private static final int CALLS = 512;
    private static final String[] NAMES = {"a", "b", "ab", "aa", "abc", "z", "za", "zzzzzz",
        "ba", "c", "d", "abcdef", "abd", "aaaaaa", "q", "y"};
    private static final String[] ORDERS = {"+%s;", "+%s;", "-%s;", "=%d,%d,%s;", "!%d;"};

    private final Random random;
    private final NameRolls x = new NameRolls();
    private final Model model = new Model();
    private final List<Integer> tags = new ArrayList<>();
    private final int names;
    private final int[] weights = new int[23];

    private RandomRunsTest(int seed) {
        random = new Random(seed);
        names = random.nextInt(3) == 0 ? 60 : 2 + random.nextInt(NAMES.length - 1);
        for (int i = 0; i < weights.length; i++) {
            weights[i] = 1 + random.nextInt(6);
        }
        weights[0] += random.nextInt(20);
        weights[9] += random.nextInt(8);
        weights[19] += random.nextInt(20);
    }

    public static void main(String[] args) {
        for (int seed = 1; seed <= RUNS; seed++) {
            new RandomRunsTest(seed).run(seed);
        }
        due.end();
    }

    private void run(int seed) {
        int calls = 0;
        while (calls < CALLS) {
            int call = draw();
            if (call == 19 && random.nextBoolean()) {
                String text = text();
                for (int i = 0; i < text.length() && calls < CALLS; i++, calls++) {
                    one(seed, 19, text.charAt(i));
                }
            } else {
                one(seed, call, random.nextInt(8) == 0 ? 31 + random.nextInt(97) : -1);
                calls++;
            }
        }
    }

    private int draw() {
        int sum = 0;
        for (int weight : weights) {
            sum += weight;
        }
        int at = random.nextInt(sum);
        int call = 0;
        while (at >= weights[call]) {
            at -= weights[call];
            call++;
        }
        return call;
    }

    private String letters() {
        if (names == 60) {
            int i = random.nextInt(60);
            return "" + (char) ('a' + i % 26) + (char) ('a' + i / 26);
        }
        return NAMES[random.nextInt(names)];
    }

    private int name() {
        int odd = random.nextInt(20);
        return odd == 0 ? random.nextInt() : odd == 1 ? random.nextInt(800) : Due.name(letters());
    }

    private int tag() {
        int odd = random.nextInt(14);
        if (odd == 0 || tags.isEmpty()) {
            return random.nextInt();
        }
        if (odd == 1) {
            int epoch = Math.max(0, model.count(3) + 1 - random.nextInt(6));
            return Due.tag(epoch, random.nextInt(4), random.nextInt(44));
        }
        if (odd == 2) {
            return tags.get(random.nextInt(tags.size()));
        }
        return tags.get(Math.max(0, tags.size() - 1 - random.nextInt(12)));
    }

    /** Mostly from 0 to the highest one, now and then beyond. */
    private int upTo(int highest) {
        int odd = random.nextInt(16);
        return odd == 0 ? highest + 1 : odd == 1 ? -1 : random.nextInt(highest + 1);
    }

    private String text() {
        StringBuilder text = new StringBuilder();
        for (int i = random.nextInt(5); i >= 0; i--) {
            String order = ORDERS[random.nextInt(ORDERS.length)];
            String name = random.nextInt(25) == 0 ? "abcdefg" : letters();
            int rule = random.nextInt(12) == 0 ? 3 : random.nextInt(3);
            if (order.charAt(0) == '=') {
                text.append(String.format(order, rule, random.nextInt(20) % 7, name));
            } else if (order.charAt(0) == '!') {
                text.append(String.format(order, rule));
            } else {
                text.append(String.format(order, name));
            }
        }
        if (random.nextInt(4) == 0) {
            text.setCharAt(random.nextInt(text.length()), "+-=!,;a0 9"
                .charAt(random.nextInt(10)));
        }
        if (random.nextInt(8) == 0) {
            text.setLength(random.nextInt(text.length()));
        }
        return text.toString();
    }

    private void same(int seed, String call, int got, int want) {
        due.is("seed " + seed + ": " + call, got, want);
        if (want >= 0) {
            tags.add(want);
        }
    }

    private void one(int seed, int call, int character) {
        int n = name();
        int t = tag();
        int a = upTo(2);
        int b = upTo(5);
        int number = upTo(random.nextBoolean() ? 39 : 5);
        int place = upTo(random.nextBoolean() ? 45 : 5);
        switch (call) {
            case 0 -> same(seed, "acquire(" + n + ")", x.acquire(n), model.acquire(n));
            case 1 -> due.is(seed + " use(" + t + ")", x.use(t), model.use(t));
            case 2 -> due.is(seed + " release(" + t + ")", x.release(t), model.release(t));
            case 3 -> same(seed, "follow(" + t + ")", x.follow(t), model.follow(t));
            case 4 -> due.is(seed + " nameOf(" + t + ")", x.nameOf(t), model.nameOf(t));
            case 5 -> due.is(seed + " why(" + t + ")", x.why(t), model.why(t));
            case 6 -> due.is(seed + " put(" + a + ", " + b + ", " + t + ")",
                x.put(a, b, t), model.put(a, b, t));
            case 7 -> due.is(seed + " clear(" + a + ", " + b + ")",
                x.clear(a, b), model.clear(a, b));
            case 8 -> same(seed, "cellOf(" + a + ", " + b + ")",
                x.cellOf(a, b), model.cellOf(a, b));
            case 9 -> due.is(seed + " compact(" + a + ")", x.compact(a), model.compact(a));
            case 10 -> due.is(seed + " numberOf(" + number + ", " + b + ")",
                x.numberOf(number, b), model.numberOf(number, b));
            case 11 -> due.is(seed + " find(" + n + ")", x.find(n), model.find(n));
            case 12 -> due.is(seed + " nameAt(" + a + ", " + place + ")",
                x.nameAt(a, place), model.nameAt(a, place));
            case 13 -> due.is(seed + " beginning(" + n + ")", x.beginning(n), model.beginning(n));
            case 14 -> due.is(seed + " behind(" + n + ")", x.behind(n), model.behind(n));
            case 15 -> due.is(seed + " wouldBe(" + number + ", " + a + ")",
                x.wouldBe(number, a), model.wouldBe(number, a));
            case 16 -> due.is(seed + " compaction(" + a + ", " + b + ")",
                x.compaction(a, b), model.compaction(a, b));
            case 17 -> due.is(seed + " count(" + (b + number % 6) + ")",
                x.count(b + number % 6), model.count(b + number % 6));
            case 18 -> due.is(seed + " undo()", x.undo(), model.undo());
            case 19 -> {
                int c = character < 0 ? "+-;a!0=,".charAt(random.nextInt(8)) : character;
                due.is(seed + " type(" + c + ")", x.type(c), model.type(c));
            }
            case 20 -> {
                if (random.nextBoolean()) {
                    due.is(seed + " clearText()", x.clearText(), model.clearText());
                }
            }
            case 21 -> due.is(seed + " fault(" + a + ")", x.fault(a), model.fault(a));
            default -> due.is(seed + " play()", x.play(), model.play());
        }
    }
}
