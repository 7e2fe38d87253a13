import java.util.function.Supplier;
import java.util.function.ToLongFunction;

/**
 * REFUSALS: what they answer, in which order they are asked, and that they change nothing. Two objects
 * get the same calls, one of them the refused call too; then all that can be asked is asked of both.
 */
public final class RefusalsTest {
    private static final Due due = new Due();
    private static final int ROWS = 2;
    private static final int COLUMNS = 6;
    private static final int EARLY = 500;
    private static final int LAST_TIME = 540;

    public static void main(String[] args) {
        due.about("REFUSALS change nothing and answer, the first that fits: -1 an unknown number, -2 outside a range, -3 not in this state, -4 no room.");
        valueRefused();
        settingRefused();
        pressRefused();
        shownRefused();
        warnRefused();
        acceptRefused();
        tripRefused();
        sumRefused();
        speedRefused();
        languageRefused();
        lampRefused();
        questionsChangeNothing();
        onNewObjects();
        afterAWrongText();
        withoutRoom();
        theLookTellsStatesApart();
        due.end();
    }

    private static String grid(MenuScreens x) {
        StringBuilder signs = new StringBuilder();
        for (int row = 0; row < ROWS; row++) {
            for (int column = 0; column < COLUMNS; column++) {
                signs.append((char) x.shown(row, column));
            }
            signs.append('/');
        }
        return signs.toString();
    }

    /** All that later calls tell of an object, in some 250 calls. */
    private static String look(MenuScreens x) {
        StringBuilder told = new StringBuilder();
        lookAtScreens(x, told);
        lookAtValues(x, told);
        lookAtTheCar(x, told);
        told.append(" pending text ").append(x.read()).append(grid(x)).append(x.press(1));
        return told.toString();
    }

    private static void lookAtScreens(MenuScreens x, StringBuilder told) {
        told.append(grid(x)).append(" language ").append(x.language(0)).append(grid(x));
        told.append(" keys ");
        for (int key = 1; key <= 9; key++) {
            told.append(x.press(key));
        }
        // As slow as this nothing is barred.
        told.append(" slow ").append(x.speed(0)).append(grid(x)).append(x.press(1)).append(grid(x)).append(x.press(9));
        told.append(" rings ").append(x.ring(0)).append(x.ring(1)).append(x.ring(2));
    }

    private static void lookAtValues(MenuScreens x, StringBuilder told) {
        told.append(grid(x)).append(" values ");
        for (int name = 0; name <= 4; name++) {
            told.append(x.value(name, name + 1, true)).append(x.setting(name, 9 - name)).append(',');
        }
        told.append(grid(x));
    }

    private static void lookAtTheCar(MenuScreens x, StringBuilder told) {
        told.append(" sums ").append(x.sum(0, 0)).append(' ').append(x.sum(1, 0)).append(" trips ").append(x.trip(1, 1));
        told.append(" lamps ");
        // Of the lamp that is asked for first nothing is told, so it is none at an edge.
        for (int i = 7; i < 7 + 16; i++) {
            told.append(x.lamp(i % 16, true)).append(',');
        }
        told.append(" warnings ");
        for (int i = 0; i < 8; i++) {
            told.append(x.warning(i)).append(',');
        }
        for (int number = 1; number <= 8; number++) {
            told.append(x.accept(number)).append(',');
        }
        // The first of these times that is taken is the last one told.
        for (int t = LAST_TIME - 2; t <= LAST_TIME + 2; t++) {
            told.append(x.warn(1, t)).append(',');
        }
        told.append(x.warn(1, Long.MAX_VALUE));
    }

    private static void refused(String call, Supplier<MenuScreens> made, ToLongFunction<MenuScreens> refusal, long want) {
        MenuScreens plain = made.get();
        MenuScreens asked = made.get();
        due.is(call, refusal.applyAsLong(asked), want);
        due.is(call + " again", refusal.applyAsLong(asked), want);
        due.is(call + ": all that can be asked then", look(asked), look(plain));
    }

    /** An object in the midst of its use: each call that can change something has changed something. */
    private static MenuScreens inUse() {
        MenuScreens x = new MenuScreens(ROWS, COLUMNS);
        due.is("read", Due.read(x, "name v", "setting s 0 9 4", "name w", "screen a", "say 0 0 AB CD", "show 0 2 2 v",
                "show 0 4 1 s", "show 1 3 3 w", "key 1 b", "key 9 c", "screen b", "bar 20", "show 0 3 3 v",
                "put 0 0 B", "key 1 a", "key 2 c", "key 9 a", "screen c", "say 0 0 C -", "key 9 a"), 3);
        x.value(1, -7, true);
        x.setting(2, 5);
        x.value(3, 8, false);
        x.language(1);
        x.speed(30);
        x.press(1);
        x.warn(10, 0);
        x.warn(70, 100);
        x.warn(30, EARLY);
        x.warn(70, EARLY + 11);
        x.warn(2, LAST_TIME);
        x.accept(2);
        x.trip(1200, 340);
        x.lamp(3, false);
        x.lamp(15, false);
        Due.type(x, "screen p\nput 0 0 PE");
        return x;
    }

    private static void inUse(String call, ToLongFunction<MenuScreens> refusal, long want) {
        refused(call, RefusalsTest::inUse, refusal, want);
    }

    private static void valueRefused() {
        for (int name : new int[] {0, 4, -1, Integer.MIN_VALUE, Integer.MAX_VALUE}) {
            inUse("value(" + name + ", 5, true)", x -> x.value(name, 5, true), -1);
            inUse("value(" + name + ", 1000000, true): unknown before outside", x -> x.value(name, 1000000, true), -1);
        }
        for (long v : new long[] {-1000000, 1000000, Long.MIN_VALUE, Long.MAX_VALUE}) {
            inUse("value(1, " + v + ", true)", x -> x.value(1, v, true), -2);
            inUse("value(1, " + v + ", false)", x -> x.value(1, v, false), -2);
            inUse("value(2, " + v + ", true): outside before the state", x -> x.value(2, v, true), -2);
        }
        inUse("value(2, 6, true)", x -> x.value(2, 6, true), -3);
        inUse("value(2, 5, false)", x -> x.value(2, 5, false), -3);
        inUse("value(2, 999999, true)", x -> x.value(2, 999999, true), -3);
        inUse("value(2, -999999, true)", x -> x.value(2, -999999, true), -3);
    }

    private static void settingRefused() {
        for (int name : new int[] {0, 4, -1, Integer.MIN_VALUE, Integer.MAX_VALUE}) {
            inUse("setting(" + name + ", 5)", x -> x.setting(name, 5), -1);
            inUse("setting(" + name + ", far)", x -> x.setting(name, Long.MAX_VALUE), -1);
        }
        inUse("setting(1, 5)", x -> x.setting(1, 5), -3);
        inUse("setting(3, far)", x -> x.setting(3, Long.MIN_VALUE), -3);
        for (long v : new long[] {-1, 10, Long.MIN_VALUE, Long.MAX_VALUE, (1L << 32) + 6}) {
            inUse("setting(2, " + v + ")", x -> x.setting(2, v), 0);
        }
    }

    private static void pressRefused() {
        for (int key : new int[] {0, 10, -1, Integer.MIN_VALUE, Integer.MAX_VALUE}) {
            inUse("press(" + key + ")", x -> x.press(key), -2);
        }
        inUse("press(1), which the bar stops", x -> x.press(1), 2);
        inUse("press(3), which leads nowhere", x -> x.press(3), 2);
    }

    private static void shownRefused() {
        int[][] places = {{-1, 0}, {ROWS, 0}, {0, -1}, {0, COLUMNS}, {ROWS, COLUMNS}, {-1, -1}, {Integer.MIN_VALUE, 0}, {0, Integer.MAX_VALUE}};
        for (int[] place : places) {
            inUse("shown(" + place[0] + ", " + place[1] + ")", x -> x.shown(place[0], place[1]), -2);
        }
    }

    private static void warnRefused() {
        for (int rank : new int[] {-1, 100, Integer.MIN_VALUE, Integer.MAX_VALUE}) {
            inUse("warn(" + rank + ", " + LAST_TIME + ")", x -> x.warn(rank, LAST_TIME), -2);
            inUse("warn(" + rank + ", later)", x -> x.warn(rank, Long.MAX_VALUE), -2);
            inUse("warn(" + rank + ", -1)", x -> x.warn(rank, -1), -2);
        }
        for (long t : new long[] {-1, 0, EARLY, LAST_TIME - 1, Long.MIN_VALUE}) {
            inUse("warn(5, " + t + ")", x -> x.warn(5, t), -2);
            inUse("warn(99, " + t + ")", x -> x.warn(99, t), -2);
        }
    }

    private static void acceptRefused() {
        for (int number : new int[] {0, 6, -1, 200, 201, Integer.MIN_VALUE, Integer.MAX_VALUE}) {
            inUse("accept(" + number + ")", x -> x.accept(number), -1);
        }
        inUse("accept(2), which was", x -> x.accept(2), -1);
        inUse("accept(4), 29 behind", x -> x.accept(4), -3);
        inUse("accept(5), 0 behind", x -> x.accept(5), -3);
    }

    private static void tripRefused() {
        for (long amount : new long[] {-1, 1000000001, Long.MIN_VALUE, Long.MAX_VALUE, 1L << 32}) {
            inUse("trip(" + amount + ", 5)", x -> x.trip(amount, 5), -2);
            inUse("trip(5, " + amount + ")", x -> x.trip(5, amount), -2);
            inUse("trip(" + amount + ", " + amount + ")", x -> x.trip(amount, amount), -2);
        }
    }

    private static void sumRefused() {
        for (int what : new int[] {-1, 3, Integer.MIN_VALUE, Integer.MAX_VALUE}) {
            inUse("sum(" + what + ", 0)", x -> x.sum(what, 0), -2);
            inUse("sum(" + what + ", 1)", x -> x.sum(what, 1), -2);
        }
    }

    private static void speedRefused() {
        for (long v : new long[] {-1, 1000, Long.MIN_VALUE, Long.MAX_VALUE, 1L << 32}) {
            inUse("speed(" + v + ")", x -> x.speed(v), -2);
        }
    }

    private static void languageRefused() {
        for (int l : new int[] {-1, 2, Integer.MIN_VALUE, Integer.MAX_VALUE}) {
            inUse("language(" + l + ")", x -> x.language(l), -2);
        }
    }

    private static void lampRefused() {
        for (int i : new int[] {-1, 16, 32, Integer.MIN_VALUE, Integer.MAX_VALUE}) {
            inUse("lamp(" + i + ", true)", x -> x.lamp(i, true), -1);
            inUse("lamp(" + i + ", false)", x -> x.lamp(i, false), -1);
        }
    }

    private static void questionsChangeNothing() {
        inUse("shown(0, 0)", x -> x.shown(0, 0), 32);
        inUse("shown(1, 0)", x -> x.shown(1, 0), '!');
        inUse("warning(0)", x -> x.warning(0), 4);
        inUse("warning(3)", x -> x.warning(3), 5);
        inUse("warning(4)", x -> x.warning(4), 0);
        inUse("warning(-1)", x -> x.warning(-1), 0);
        inUse("ring(0)", x -> x.ring(0), 0);
        inUse("ring(-1)", x -> x.ring(-1), 0);
        inUse("sum(0, 0)", x -> x.sum(0, 0), 1200);
        inUse("sum(1, 0)", x -> x.sum(1, 0), 340);
        inUse("sum(2, 0)", x -> x.sum(2, 0), 850);
        inUse("sum(2, 1)", x -> x.sum(2, 1), 3);
        inUse("sign(0)", x -> signed(x, 0), 0);
        inUse("sign(-1)", x -> signed(x, -1), 0);
        inUse("sign(0x80ff0080)", x -> signed(x, 0x80ff0080), 0);
    }

    private static long signed(MenuScreens x, int c) {
        x.sign(c);
        return 0;
    }

    private static void refusedWithoutText(String state, Supplier<MenuScreens> made) {
        refused(state + ": value(1, 0, true)", made, x -> x.value(1, 0, true), -1);
        refused(state + ": value(1, far, true)", made, x -> x.value(1, Long.MAX_VALUE, true), -1);
        refused(state + ": setting(1, 0)", made, x -> x.setting(1, 0), -1);
        refused(state + ": press(1)", made, x -> x.press(1), -3);
        refused(state + ": press(9)", made, x -> x.press(9), -3);
        refused(state + ": press(0), outside before the state", made, x -> x.press(0), -2);
        refused(state + ": press(10), outside before the state", made, x -> x.press(10), -2);
        refused(state + ": shown(2, 0)", made, x -> x.shown(ROWS, 0), -2);
        refused(state + ": warn(100, 0)", made, x -> x.warn(100, 0), -2);
        refused(state + ": warn(0, -1)", made, x -> x.warn(0, -1), -2);
        refused(state + ": accept(1)", made, x -> x.accept(1), -1);
        refused(state + ": trip(-1, 0)", made, x -> x.trip(-1, 0), -2);
        refused(state + ": sum(3, 0)", made, x -> x.sum(3, 0), -2);
        refused(state + ": speed(1000)", made, x -> x.speed(1000), -2);
        refused(state + ": language(2)", made, x -> x.language(2), -2);
        refused(state + ": lamp(16, false)", made, x -> x.lamp(16, false), -1);
    }

    private static void onNewObjects() {
        refusedWithoutText("new", () -> new MenuScreens(ROWS, COLUMNS));
    }

    private static void afterAWrongText() {
        refusedWithoutText("after a wrong text", () -> {
            MenuScreens x = due.reading(ROWS, COLUMNS, "name v", "screen a", "put 0 0 A");
            due.is("in a RING", Due.read(x, "name v", "screen a", "screen b"), -4);
            return x;
        });
    }

    private static MenuScreens full() {
        MenuScreens x = due.reading(ROWS, COLUMNS, "screen a", "put 0 0 A");
        for (int n = 1; n <= 200; n++) {
            x.warn(n % 3, n == 200 ? LAST_TIME : n);
        }
        x.accept(2);
        return x;
    }

    private static void withoutRoom() {
        refused("no room", RefusalsTest::full, x -> x.warn(50, LAST_TIME), -4);
        refused("no room, later", RefusalsTest::full, x -> x.warn(50, Long.MAX_VALUE), -4);
        refused("RANK before no room", RefusalsTest::full, x -> x.warn(100, LAST_TIME), -2);
        refused("RANK before no room", RefusalsTest::full, x -> x.warn(-1, LAST_TIME), -2);
        refused("time before no room", RefusalsTest::full, x -> x.warn(50, LAST_TIME - 1), -2);
        refused("time before no room", RefusalsTest::full, x -> x.warn(50, -1), -2);
        refused("number 201", RefusalsTest::full, x -> x.accept(201), -1);
        refused("it was", RefusalsTest::full, x -> x.accept(2), -1);
        refused("the last one, too early", RefusalsTest::full, x -> x.accept(200), -3);
    }

    private static void isSeen(String call, ToLongFunction<MenuScreens> change) {
        MenuScreens changed = inUse();
        change.applyAsLong(changed);
        due.is(call + " is seen", look(changed).equals(look(inUse())) ? 0 : 1, 1);
    }

    /** A look that could not see a change would let every refusal pass. */
    private static void theLookTellsStatesApart() {
        isSeen("value(1, -8, true)", x -> x.value(1, -8, true));
        isSeen("value(1, -7, false)", x -> x.value(1, -7, false));
        isSeen("value(3, 8, true)", x -> x.value(3, 8, true));
        isSeen("setting(2, 6)", x -> x.setting(2, 6));
        isSeen("press(9)", x -> x.press(9));
        isSeen("speed(20)", x -> x.speed(20));
        isSeen("language(0)", x -> x.language(0));
        isSeen("warn(0, " + LAST_TIME + ")", x -> x.warn(0, LAST_TIME));
        isSeen("warn(0, " + (LAST_TIME + 1) + ")", x -> x.warn(0, LAST_TIME + 1));
        isSeen("accept(1)", x -> x.accept(1));
        isSeen("trip(0, 0)", x -> x.trip(0, 0));
        isSeen("trip(1, 0)", x -> x.trip(1, 0));
        isSeen("trip(0, 1)", x -> x.trip(0, 1));
        isSeen("lamp(0, false)", x -> x.lamp(0, false));
        isSeen("lamp(3, true)", x -> x.lamp(3, true));
        isSeen("sign('x')", x -> signed(x, 'x'));
        isSeen("read()", x -> x.read());
    }
}
