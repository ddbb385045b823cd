/** The fixed limits: 40 numbers, 999 users and 999 epochs. */
public final class LimitsTest {
    private static final Due due = new Due("LimitsTest");

    public static void main(String[] args) {
        numbers();
        users();
        epochs();
        due.end();
    }

    private static void numbers() {
        NameRolls x = new NameRolls();
        for (int i = 0; i < 40; i++) {
            due.is("acquire " + i, x.acquire(Due.name("a") * 27 + 1 + i % 26 + i / 26 * 27), i);
        }
        due.is("acquire the 41st", x.acquire(26), Due.LIMIT);
        due.is("acquire no name", x.acquire(0), Due.INVALID);
        due.is("states", x.count(9), 4);
        due.is("acquire one of the 40", x.acquire(28), 0);
        Due.write(x, "+aa;+z;");
        due.is("fault(0), no room", x.fault(0), 4);
        due.is("fault(1), no room", x.fault(1), 3);
        due.is("count(4)", x.count(4), 40);
        due.is("count(5)", x.count(5), 0);
        due.is("nameAt(0, 39)", x.nameAt(0, 39), x.numberOf(39, 0));
        due.is("nameAt(0, 40)", x.nameAt(0, 40), Due.NOT_FOUND);
        due.is("release(39)", x.release(39), 0);
        due.is("play() now", x.play(), 2);
        due.is("find z", x.find(26), 39);
        due.is("tag of z", x.numberOf(39, 4), 139);
        due.is("compact(1)", x.compact(1), 0);
        due.is("wouldBe(39, 2)", x.wouldBe(39, 2), 39);
    }

    private static void users() {
        NameRolls x = Due.rolls("a", "b");
        Due.write(x, "+a;+a;+a;+a;+a;+a;+a;+a;+a;+a;+a;+a;+a;+a;+a;+a;+a;+a;+a;+a;");
        for (int i = 0; i < 49; i++) {
            x.play();
        }
        due.is("users", x.numberOf(0, 1), 981);
        due.is("fault(0), no room", x.fault(0), 54);
        due.is("fault(1), no room", x.fault(1), 3);
        due.is("fault(2), no room", x.fault(2), Due.NOT_FOUND);
        for (int users = 982; users <= 998; users++) {
            due.is("use(0)", x.use(0), users);
        }
        due.is("put(0, 0, 0)", x.put(0, 0, 0), 999);
        due.is("use(0)", x.use(0), Due.LIMIT);
        due.is("acquire(1)", x.acquire(1), Due.LIMIT);
        due.is("put(0, 1, 0)", x.put(0, 1, 0), Due.LIMIT);
        due.is("put(0, 0, 0), counted as it was", x.put(0, 0, 0), Due.LIMIT);
        due.is("put(0, 0, 2), stale", x.put(0, 0, 2), Due.STALE);
        due.is("users", x.numberOf(0, 1), 999);
        Due.write(x, "=0,0,a;");
        due.is("fault(1), no room", x.fault(1), 3);
        Due.write(x, "-a;=0,0,a;+a;");
        due.is("fault(0), room again", x.fault(0), Due.NOT_FOUND);
        due.is("play()", x.play(), 3);
        due.is("users", x.numberOf(0, 1), 999);
        due.is("put(0, 0, 1)", x.put(0, 0, 1), 2);
        due.is("use(0)", x.use(0), 999);
        due.is("users of all", x.count(1), 1001);
    }

    private static void epochs() {
        NameRolls x = Due.rolls("b", "a");
        Due.write(x, "!1;!2;!1;!2;!1;!2;!1;!2;!1;!2;!1;!2;!1;!2;!1;!2;!1;!2;!1;!2;");
        x.use(0);
        for (int i = 0; i < 49; i++) {
            x.play();
        }
        due.is("epoch", x.count(3), 980);
        due.is("year of 0", x.numberOf(0, 3), 980);
        due.is("tag of 0", x.numberOf(0, 4), 980098000);
        for (int epoch = 981; epoch <= 990; epoch++) {
            x.compact(0);
        }
        due.is("fault(0), no epoch", x.fault(0), 27);
        due.is("fault(1), no epoch", x.fault(1), 3);
        due.is("play()", x.play(), Due.NOT_POSSIBLE);
        for (int epoch = 991; epoch <= 999; epoch++) {
            due.is("compact(0)", x.compact(0), 0);
        }
        due.is("compact(0)", x.compact(0), Due.LIMIT);
        due.is("compact(3)", x.compact(3), Due.INVALID);
        due.is("epoch", x.count(3), 999);
        due.is("wouldBe(0, 1)", x.wouldBe(0, 1), 1);
        due.is("tag of 1", x.numberOf(1, 4), 999098001);
        due.is("follow", x.follow(996098001), 999098001);
        due.is("why, too old", x.why(995098001), 2);
        due.is("why, no tag", x.why(1000000000), 1);
        due.is("undo()", x.undo(), 3);
        due.is("compact(1)", x.compact(1), 2);
    }
}
