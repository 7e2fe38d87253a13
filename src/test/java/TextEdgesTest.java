/**
 * The edges of THE TEXT and of what read() makes of it, sentence by sentence: for each bound the last
 * input that is inside and the first that is outside, nothing at all, and all the room full.
 */
public final class TextEdgesTest {
    private static final Due due = new Due();
    private static final int MOST_CALLS = 512;
    private static final int MOST_SIGNS = 4000;

    public static void main(String[] args) {
        calls();
        newObject();
        signsOfTheText();
        roomOfTheText();
        bytesOfSign();
        lines();
        words();
        linesWithoutWords();
        names();
        numbers();
        nameLines();
        mostValues();
        settingLines();
        numberedTogether();
        screenLines();
        mostScreens();
        twoKindsOfNames();
        rowsAndColumns();
        columnsOfShow();
        ifLines();
        keyLines();
        keysThatAreThereTwice();
        barLines();
        linesThatAreNone();
        linesWithOtherWords();
        shortLinesAfterLongOnes();
        numbersOutOfBounds();
        namesThatAreNotThere();
        linesWithoutAScreen();
        linesThatAreTooMany();
        firstWrongLines();
        keysToNowhere();
        waysHome();
        bothAtTheEnd();
        readEmpties();
        readStartsAnew();
        readOfAWrongText();
        readWithoutAScreen();
        readKeeps();
        rings();
        ringsOfAWrongText();
        due.end();
    }

    /** What read() answers to this text, sign for sign, on a new object. */
    private static void readsText(int want, String text) {
        MenuScreens x = new MenuScreens(4, 16);
        Due.type(x, text);
        due.is("read() of " + text.replace("\n", "/"), x.read(), want);
    }

    /** What read() answers to a line of a screen, the third one, where v is a value's name. */
    private static void readsLine(boolean right, String line) {
        due.reads(right ? 1 : -4, "name v", "screen a", line);
    }

    private static void calls() {
        due.about("An object is used for at most 512 calls after it has been made");
        MenuScreens longText = new MenuScreens(1, 2);
        String end = "\nscreen a\nput 0 0 X";
        Due.type(longText, " ".repeat((MOST_CALLS - 2) * 4 - end.length()) + end);
        due.is("the 511th call, read() of all that can be typed", longText.read(), 1);
        due.is("the 512th call", longText.shown(0, 0), 'X');
        MenuScreens manyLines = new MenuScreens(1, 1);
        Due.type(manyLines, "\n".repeat((MOST_CALLS - 1) * 4 - 1) + "x");
        due.is("the 512th call, read() of 2044 lines", manyLines.read(), -2045);
    }

    private static void hasSize(int rows, int columns, int rowsDue, int columnsDue) {
        MenuScreens x = new MenuScreens(rows, columns);
        String size = "(" + rows + ", " + columns + ") ";
        due.is(size + "first sign", x.shown(0, 0), 32);
        due.is(size + "last row", x.shown(rowsDue - 1, 0), 32);
        due.is(size + "row beyond", x.shown(rowsDue, 0), -2);
        due.is(size + "last column", x.shown(0, columnsDue - 1), 32);
        due.is(size + "column beyond", x.shown(0, columnsDue), -2);
    }

    private static void newObject() {
        due.about("So many rows and columns (each 1 .. 40; both 4 and 16 when one is another number); no text, no screens.");
        hasSize(1, 1, 1, 1);
        hasSize(1, 40, 1, 40);
        hasSize(40, 1, 40, 1);
        hasSize(40, 40, 40, 40);
        hasSize(4, 16, 4, 16);
        int[] others = {0, 41, -1, -40, 256, Integer.MIN_VALUE, Integer.MAX_VALUE};
        for (int other : others) {
            hasSize(other, 7, 4, 16);
            hasSize(7, other, 4, 16);
            hasSize(other, other, 4, 16);
        }
        MenuScreens x = new MenuScreens(4, 16);
        due.is("no screens", x.press(1), -3);
        due.is("no values", x.value(1, 0, true), -1);
        due.is("no text", x.read(), 0);
        due.is("no screens after it", x.press(1), -3);
    }

    private static void signsOfTheText() {
        due.about("THE TEXT has at most 4000 signs (1 .. 127).");
        for (int sign = 0; sign < 256; sign++) {
            MenuScreens x = new MenuScreens(1, 3);
            Due.type(x, "screen a\nput 0 0 A");
            x.sign(sign);
            Due.type(x, "B");
            boolean isOne = sign >= 1 && sign <= 127;
            // B is another line after a 10 and another word after a 32.
            due.is("sign " + sign, x.read(), sign == 10 ? -4 : sign == 32 ? -3 : 1);
            due.is("what stands behind A after sign " + sign, x.shown(0, 1),
                    sign == 10 || sign == 32 ? 32 : isOne ? sign : 'B');
        }
    }

    /** An object whose text has this many blank lines: these calls are more than 512, but no other way fills it. */
    private static MenuScreens withLines(int count) {
        MenuScreens x = new MenuScreens(1, 3);
        Due.type(x, "\n".repeat(count));
        return x;
    }

    private static void roomOfTheText() {
        due.about("or for which there is no room, are left out.");
        MenuScreens last = withLines(MOST_SIGNS - 1);
        last.sign('x');
        due.is("x is the 4000th sign", last.read(), -1 - MOST_SIGNS);
        MenuScreens full = withLines(MOST_SIGNS);
        full.sign('x');
        due.is("x would be the 4001st sign", full.read(), 0);
        full.sign('x');
        due.is("room again after read()", full.read(), -2);
        MenuScreens half = withLines(MOST_SIGNS - 2);
        half.sign('\n' << 24 | 'x' << 16 | '\n' << 8 | 'y');
        due.is("room for two of four", half.read(), -1 - MOST_SIGNS);
        MenuScreens none = withLines(MOST_SIGNS - 1);
        none.sign(128 << 16);
        none.sign(255 << 24 | 'x');
        due.is("what is no sign takes no room", none.read(), -1 - MOST_SIGNS);
        MenuScreens far = withLines(2 * MOST_SIGNS);
        Due.type(far, "xxxx");
        due.is("4000 signs too many", far.read(), 0);
    }

    private static String typed(int... fours) {
        MenuScreens x = new MenuScreens(1, 9);
        Due.type(x, "screen a\nput 0 0 .");
        for (int c : fours) {
            x.sign(c);
        }
        due.is("read", x.read(), 1);
        return Due.row(x, 0).trim();
    }

    private static void bytesOfSign() {
        due.about("Up to four signs more of the text: the bytes of c, the highest first; those that are none (0, above 127)");
        due.is("four", typed(0x41424344), ".ABCD");
        due.is("eight", typed(0x41424344, 0x45464748), ".ABCDEFGH");
        due.is("none at all", typed(0), ".");
        due.is("none, all above", typed(-1, Integer.MIN_VALUE, 0x80808080), ".");
        due.is("the highest alone", typed(0x41000000), ".A");
        due.is("the second alone", typed(0x410000), ".A");
        due.is("the third alone", typed(0x4100), ".A");
        due.is("the lowest alone", typed(0x41), ".A");
        due.is("127 and 128", typed(0x7f807f80), ".\u007f\u007f");
        due.is("1 and 0", typed(0x01000100, 0x41), ".\u0001\u0001A");
        due.is("255 between", typed(0x41ff42ff, 0xff43ff44), ".ABCD");
    }

    private static void lines() {
        due.about("LINES end by a sign 10");
        readsText(1, "screen a");
        readsText(1, "screen a\n");
        readsText(2, "screen a\nscreen b\nkey 1 a");
        readsText(-2, "screen a\rscreen b\n");
        readsText(-2, "screen a\u000bscreen b\n");
        readsText(-2, "screen a\tscreen b\n");
        readsText(-2, "x");
        readsText(-3, "\nx");
        readsText(-3, "screen a\nx\n\n");
    }

    private static void words() {
        due.about("words are what stands between spaces");
        readsText(1, "screen a");
        readsText(1, " screen a");
        readsText(1, "   screen    a   ");
        readsText(-2, "screena");
        readsText(-2, "screen\u001fa");
        readsText(-2, "screen!a");
        readsText(-2, "screen\ta");
        readsText(-2, "screen a\r");
        readsText(-2, "scr een a");
        readsText(-2, "screen a .");
        readsText(-2, "screen " + "a ".repeat(900));
    }

    private static void linesWithoutWords() {
        due.about("Lines without words are passed over");
        readsText(0, "");
        readsText(0, "\n");
        readsText(0, " ");
        readsText(0, "  \n\n   \n");
        readsText(1, "\n \nscreen a\n\n \nput 0 0 X\n \n");
        readsText(-6, "\n \nscreen a\n\nx");
        readsText(-2, "\t");
    }

    private static void names() {
        due.about("A NAME is 1 to 8 letters a to z");
        String[] inside = {"a", "z", "az", "abcdefgh", "zzzzzzzz", "name", "screen", "if"};
        for (String name : inside) {
            due.reads(0, "name " + name);
            due.reads(0, "setting " + name + " 0 0 0");
            due.reads(1, "screen " + name, "key 1 " + name);
            due.reads(1, "name " + name, "screen a", "if " + name + " = 0", "show 0 0 1 " + name);
        }
        String[] outside = {"", "abcdefghi", "zzzzzzzzzzzz", "`", "{", "A", "Z", "a`", "{a", "aZa", "a-", "-", "0", "a1", "1a", "a_b", "a\u007f"};
        for (String name : outside) {
            due.reads(-2, "name " + name);
            due.reads(-2, "setting " + name + " 0 0 0");
            due.reads(-2, "screen " + name);
            due.reads(-3, "screen a", "key 1 " + name);
        }
    }

    private static void numbers() {
        due.about("a NUMBER 1 to 6 digits, perhaps - before them");
        String[] inside = {"0", "9", "-0", "-9", "123456", "-123456", "999998", "999999", "-999998", "-999999", "000000", "-000001"};
        for (String number : inside) {
            due.reads(0, "setting s " + number + " 999999 999999");
            due.reads(0, "setting s -999999 " + number + " -999999");
            due.reads(0, "setting s -999999 999999 " + number);
            readsLine(true, "if v = " + number);
        }
        String[] outside = {"", "-", "1000000", "-1000000", "0000000", "-0000001", "4294967297", "--1", "+1", "1-", "-1-", "/", ":", "1/", ":1", "a", "1.", "0x1"};
        for (String number : outside) {
            due.reads(-2, "setting s " + number + " 999999 999999");
            due.reads(-2, "setting s -999999 " + number + " -999999");
            due.reads(-2, "setting s -999999 999999 " + number);
            readsLine(false, "if v = " + number);
            readsLine(false, "put " + number + " 0 X");
            readsLine(false, "put 0 " + number + " X");
            readsLine(false, "show 0 0 " + number + " v");
            readsLine(false, "key " + number + " a");
            readsLine(false, "bar " + number);
        }
        due.is("all six digits count", Due.row(due.reading(1, 7, "setting s -123456 0 -123456", "screen a", "show 0 0 7 s"), 0), "-123456");
        due.is("zeros before", Due.row(due.reading(1, 3, "setting s 000007 7 07", "screen a", "show 00 001 02 s"), 0), "  7");
    }

    private static void nameLines() {
        due.about("a value, not valid at first.");
        MenuScreens x = due.reading(1, 3, "name v", "screen a", "show 0 0 1 v", "if v = 0", "put 0 1 E", "if v < 1", "put 0 1 L", "if v > -1", "put 0 1 G");
        due.is("at first", Due.row(x, 0), "-  ");
        x.value(1, 0, true);
        due.is("valid", Due.row(x, 0), "0G ");
    }

    private static String values(int count) {
        StringBuilder lines = new StringBuilder();
        for (int i = 0; i < count; i++) {
            lines.append(i % 3 == 0 ? "setting " + Due.name(i) + " 0 1 0\n" : "name " + Due.name(i) + "\n");
        }
        return lines.toString();
    }

    private static void mostValues() {
        due.about("At most 40, numbered from 1 on.");
        MenuScreens x = new MenuScreens(1, 1);
        Due.type(x, values(40) + "screen a\nshow 0 0 1 " + Due.name(38));
        due.is("40 values", x.read(), 1);
        due.is("number 0", x.value(0, 5, true), -1);
        due.is("number 1, a setting", x.setting(1, 1), 1);
        due.is("number 2", x.value(2, 5, true), 1);
        due.is("number 39", x.value(39, 6, true), 1);
        due.is("number 39 shown", x.shown(0, 0), '6');
        due.is("number 40, a setting", x.setting(40, 1), 1);
        due.is("number 41", x.value(41, 5, true), -1);
        due.is("number 41", x.setting(41, 0), -1);
        readsText(-42, values(40) + "name zz");
        readsText(-42, values(40) + "setting zz 0 1 0");
        readsText(-44, values(40) + "screen a\n\nname zz");
        readsText(0, values(39) + "setting zz 0 1 0");
        due.is("39 values", Due.read(x, values(39)), 0);
        due.is("number 39 of 39", x.value(39, 5, true), 1);
        due.is("number 40 of 39", x.setting(40, 0), -1);
    }

    private static void settingLines() {
        due.about("a value, valid, v at first, low <= v <= high: it may be set.");
        due.reads(0, "setting s 3 8 3");
        due.reads(0, "setting s 3 8 8");
        due.reads(-2, "setting s 3 8 2");
        due.reads(-2, "setting s 3 8 9");
        due.reads(0, "setting s 3 3 3");
        due.reads(-2, "setting s 4 3 3");
        due.reads(-2, "setting s 4 3 4");
        due.reads(0, "setting s -3 -2 -2");
        due.reads(-2, "setting s -3 -2 -1");
        due.reads(-2, "setting s -2 -3 -2");
        due.reads(0, "setting s -999999 -999999 -999999");
        due.reads(0, "setting s 999999 999999 999999");
        due.reads(-2, "setting s 1 999999 0");
        MenuScreens x = due.reading(1, 3, "setting s 3 8 5", "screen a", "show 0 0 1 s", "if s = 5", "put 0 1 F");
        due.is("valid, v at first", Due.row(x, 0), "5F ");
    }

    private static void numberedTogether() {
        due.about("It is numbered with the others.");
        MenuScreens x = due.reading(1, 3, "setting s 0 9 1", "name v", "setting t 0 9 2", "screen a", "show 0 0 1 s", "show 0 1 1 v", "show 0 2 1 t");
        due.is("1 is a setting", x.setting(1, 7), 1);
        due.is("2 is none", x.setting(2, 8), -3);
        due.is("2 is a value", x.value(2, 8, true), 1);
        due.is("3 is a setting", x.setting(3, 9), 1);
        due.is("all", Due.row(x, 0), "789");
    }

    private static void screenLines() {
        due.about("what follows is on this screen, up to the next one.");
        MenuScreens x = due.reading(1, 2, "screen a", "put 0 0 A", "bar 5", "key 1 b", "screen b", "put 0 1 B", "key 2 a", "screen c", "key 1 a", "key 2 b");
        due.is("HOME shows its own", Due.row(x, 0), "A ");
        due.is("HOME has its own keys", x.press(2), 1);
        due.is("HOME has its own bar", x.speed(6), 1);
        x.speed(5);
        due.is("to the second", x.press(1), 2);
        due.is("the second shows its own", Due.row(x, 0), " B");
        due.is("the second has no bar", x.speed(999), 0);
        due.is("the second has its own keys", x.press(1), 2);
        due.is("home", x.press(2), 1);
    }

    /** Screens that lead to the next one by key 1 and home by key 2; HOME leads to the last one by key 2. */
    private static String screens(int count) {
        StringBuilder lines = new StringBuilder();
        for (int i = 0; i < count; i++) {
            lines.append("screen ").append(Due.name(i)).append('\n');
            lines.append("key 1 ").append(Due.name((i + 1) % count)).append('\n');
            lines.append("key 2 ").append(Due.name(i == 0 ? count - 1 : 0)).append('\n');
        }
        return lines.toString();
    }

    private static void mostScreens() {
        due.about("At most 30, numbered from 1 on; the first one is HOME.");
        MenuScreens x = new MenuScreens(1, 1);
        Due.type(x, screens(30));
        due.is("30 screens", x.read(), 30);
        for (int number = 2; number <= 30; number++) {
            due.is("the next screen", x.press(1), number);
        }
        due.is("HOME behind the last one", x.press(1), 1);
        due.is("from HOME to the last one", x.press(2), 30);
        readsText(29, screens(29));
        readsText(-92, screens(30) + "screen zz\nkey 1 aa");
        readsText(-92, screens(31));
        readsText(-93, screens(30) + "\nscreen zz");
    }

    private static void twoKindsOfNames() {
        due.about("Names of values and of screens are two kinds; none is there twice.");
        due.reads(1, "name a", "screen a", "key 1 a", "show 0 0 1 a");
        due.reads(1, "setting a 0 1 0", "screen a");
        due.reads(1, "screen a", "name a");
        due.reads(-3, "name a", "name a");
        due.reads(-3, "name a", "setting a 0 1 0");
        due.reads(-3, "setting a 0 1 0", "name a");
        due.reads(-3, "setting a 0 1 0", "setting a 0 1 1");
        due.reads(-3, "screen a", "screen a");
        due.reads(-6, "screen a", "screen b", "key 1 a", "", "screen b");
        due.reads(-5, "name a", "name b", "screen b", "name b");
        due.reads(0, "name a", "name aa", "name aaaaaaa", "name aaaaaaaa", "name b", "name ab", "name ba", "name z", "name zz");
        due.reads(-5, "name abcdefgh", "name abcdefgg", "name bbcdefgh", "name abcdefgh");
        readsText(-41, values(39) + "name " + Due.name(0));
        readsText(-41, values(39) + "name " + Due.name(38));
        readsText(-89, screens(29) + "screen " + Due.name(28));
    }

    private static void rowsAndColumns() {
        due.about("r and c are 0 or more");
        String[][] kinds = {{"put", "X"}, {"say", "X Y"}, {"show", "1 v"}};
        for (String[] kind : kinds) {
            readsLine(true, kind[0] + " 0 0 " + kind[1]);
            readsLine(true, kind[0] + " 999999 0 " + kind[1]);
            readsLine(true, kind[0] + " 0 999999 " + kind[1]);
            readsLine(true, kind[0] + " -0 -0 " + kind[1]);
            readsLine(false, kind[0] + " -1 0 " + kind[1]);
            readsLine(false, kind[0] + " 0 -1 " + kind[1]);
            readsLine(false, kind[0] + " -999999 0 " + kind[1]);
            readsLine(false, kind[0] + " 1000000 0 " + kind[1]);
            readsLine(false, kind[0] + " 0 1000000 " + kind[1]);
        }
    }

    private static void columnsOfShow() {
        due.about("the value in n columns (1 .. 9) from c on");
        for (int n = 1; n <= 9; n++) {
            readsLine(true, "show 0 0 " + n + " v");
        }
        for (int n : new int[] {0, 10, -1, -9, 99, 999999, -999999}) {
            readsLine(false, "show 0 0 " + n + " v");
        }
    }

    private static void ifLines() {
        due.about("op is =, < or >");
        for (String op : new String[] {"=", "<", ">"}) {
            readsLine(true, "if v " + op + " 0");
        }
        for (String op : new String[] {"", "!", "==", "<=", ">=", "=<", "<>", "!=", ";", "?", "a"}) {
            readsLine(false, "if v " + op + " 0");
        }
    }

    private static void keyLines() {
        due.about("key k (1 .. 9) leads to a screen, which may come later");
        for (int k = 1; k <= 9; k++) {
            MenuScreens x = due.reading(1, 1, "screen a", "key " + k + " b", "screen b", "key " + k + " a");
            due.is("key " + k + " leads on", x.press(k), 2);
            due.is("key " + (k % 9 + 1) + " does not", x.press(k % 9 + 1), 2);
            due.is("key " + k + " leads back", x.press(k), 1);
        }
        for (int k : new int[] {0, 10, -1, -9, 99, 999999, -999999}) {
            readsLine(false, "key " + k + " a");
        }
    }

    private static void keysThatAreThereTwice() {
        due.about("another line for the same key of a screen is wrong");
        due.reads(1, "screen a", "key 1 a", "key 2 a", "key 3 a", "key 4 a", "key 5 a", "key 6 a", "key 7 a", "key 8 a", "key 9 a");
        for (int k = 1; k <= 9; k++) {
            due.reads(-5, "screen a", "key " + k + " a", "", "key " + k + " a");
            due.reads(-4, "screen a", "key " + k + " a", "key 0" + k + " b", "screen b", "key 1 a");
            due.reads(2, "screen a", "key " + k + " a", "screen b", "key " + k + " a");
        }
    }

    private static void barLines() {
        due.about("above speed v (0 .. 999) this screen shows nothing");
        for (int v : new int[] {0, 1, 998, 999}) {
            readsLine(true, "bar " + v);
        }
        for (int v : new int[] {-1, 1000, -999, 999999, -999999}) {
            readsLine(false, "bar " + v);
        }
    }

    private static void linesThatAreNone() {
        due.about("A line is WRONG if it is none of these");
        String[] others = {"x", "names v", "nam v", "screens b", "putt 0 0 X", "pu 0 0 X", "says 0 0 X Y", "shows 0 0 1 v", "i v = 0", "iff v = 0",
                "keys 1 a", "ke 1 a", "bars 1", "ba 1", "Put 0 0 X", "PUT 0 0 X", "0", "-", "a", "0 0 X", "\u0001", "put\t0 0 X"};
        for (String other : others) {
            readsLine(false, other);
            due.reads(-2, other);
        }
    }

    private static void linesWithOtherWords() {
        due.about("has other words");
        String[] lines = {"put 0 0 X", "say 0 0 X Y", "show 0 0 1 v", "if v = 0", "key 1 a", "bar 1", "name w", "setting w 0 1 0", "screen a"};
        for (String line : lines) {
            boolean isScreen = line.startsWith("screen");
            String[] before = {"name v", isScreen ? "" : "screen a"};
            due.reads(1, before[0], before[1], line);
            due.reads(-4, before[0], before[1], line + " 0");
            due.reads(-4, before[0], before[1], line + " a");
            due.reads(-4, before[0], before[1], line + " -");
            due.reads(-4, before[0], before[1], line + " 0 0 0 0 0 0");
            for (int end = line.lastIndexOf(' '); end > 0; end = line.lastIndexOf(' ', end - 1)) {
                due.reads(-4, before[0], before[1], line.substring(0, end));
            }
        }
    }

    /** What a line lacks is not taken from a longer line, nor from a longer text, before it. */
    private static void shortLinesAfterLongOnes() {
        due.about("has other words");
        String[] whole = {"name w", "setting w 0 1 0", "screen b", "put 0 0 X", "say 0 0 X Y", "show 0 0 1 v", "if v = 0", "key 1 a", "bar 1"};
        for (String line : whole) {
            for (int end = line.lastIndexOf(' '); end > 0; end = line.lastIndexOf(' ', end - 1)) {
                String part = line.substring(0, end);
                due.reads(-4, "name v", "screen a", part);
                due.reads(-5, "name v", "screen a", "setting t 0 1 0", part);
                due.reads(-5, "name v", "screen a", "say 0 0 XXXXXXXX YYYYYYYY", part);
                MenuScreens x = due.reading(1, 1, "name v", "screen a", "", "", "", "setting tttttttt -999999 999999 0");
                due.is("read() of " + part + " behind a longer text", Due.read(x, "name v", "screen a", part), -4);
                due.is("read() of " + part + " alone", Due.read(x, part), -2);
            }
        }
    }

    private static void numbersOutOfBounds() {
        due.about("numbers out of bounds");
        String[] inside = {"put 0 0 X", "say 0 0 X Y", "show 0 0 1 v", "show 0 0 9 v", "key 1 a", "key 9 a", "bar 0", "bar 999", "if v < -999999", "if v > 999999"};
        for (String line : inside) {
            readsLine(true, line);
        }
        String[] outside = {"put -1 0 X", "put 0 -1 X", "say -1 0 X Y", "say 0 -1 X Y", "show -1 0 1 v", "show 0 -1 1 v", "show 0 0 0 v", "show 0 0 10 v",
                "key 0 a", "key 10 a", "bar -1", "bar 1000", "if v < -1000000", "if v > 1000000", "setting w 1 3 0", "setting w 1 3 4"};
        for (String line : outside) {
            readsLine(false, line);
        }
    }

    private static void namesThatAreNotThere() {
        due.about("a name that is there already, or is not there");
        readsLine(true, "show 0 0 1 v");
        readsLine(false, "show 0 0 1 w");
        readsLine(false, "show 0 0 1 vv");
        readsLine(false, "show 0 0 1 a");
        readsLine(true, "if v = 0");
        readsLine(false, "if w = 0");
        readsLine(false, "if a = 0");
        due.reads(-3, "screen a", "show 0 0 1 v", "name v");
        due.reads(-3, "screen a", "if v = 0", "name v");
        due.reads(1, "screen a", "name v", "if v = 0", "show 0 0 1 v");
        MenuScreens x = due.reading(1, 1, "name old", "screen a");
        due.is("names of the text before are forgotten", Due.read(x, "screen a", "show 0 0 1 old"), -3);
        due.is("and so are its screens", Due.read(x, "screen b", "key 1 a"), -2);
    }

    private static void linesWithoutAScreen() {
        due.about("if it belongs to a screen and there is none before it");
        for (String line : new String[] {"put 0 0 X", "say 0 0 X Y", "show 0 0 1 v", "if v = 0", "key 1 a", "bar 1"}) {
            due.reads(-3, "name v", line, "screen a");
            due.reads(-3, "name v", line);
            due.reads(1, "name v", "screen a", line);
        }
        MenuScreens x = due.reading(1, 1, "screen a");
        due.is("the screens of the text before are none", Due.read(x, "bar 1"), -2);
    }

    private static void linesThatAreTooMany() {
        due.about("or if it is one too many.");
        readsText(0, values(40));
        readsText(-42, values(41));
        readsText(30, screens(30));
        readsText(-92, screens(31));
        readsText(30, values(40) + screens(30));
        readsText(-132, values(40) + screens(30) + "name zz");
        readsText(-132, values(40) + screens(30) + "screen zz");
        MenuScreens x = new MenuScreens(1, 1);
        for (int reading = 1; reading <= 3; reading++) {
            Due.type(x, values(40));
            due.is("40 values, reading " + reading, x.read(), 0);
        }
        for (int reading = 1; reading <= 3; reading++) {
            Due.type(x, "screen a\n" + "put 0 0 A\n".repeat(15));
            due.is("15 puts, reading " + reading, x.read(), 1);
        }
        readsText(1, "screen a\n" + "put 0 0 A\n".repeat(200));
    }

    private static void firstWrongLines() {
        due.about("or -1 less the number of the first WRONG line (from 1 on");
        readsText(-2, "x");
        readsText(-2, "x\nx\nx");
        readsText(-3, "\nx\nscreen a\nx");
        readsText(-4, "screen a\nput 0 0 X\nput 0 0\nput 0");
        readsText(-1001, "\n".repeat(999) + "x\ny");
    }

    private static void keysToNowhere() {
        due.about("At the end a screen's line is WRONG, if one of its keys leads to a name that is no screen's");
        for (int k = 1; k <= 9; k++) {
            due.reads(-3, "", "screen a", "key " + k + " b");
            due.reads(-5, "screen a", "", "", "screen b", "key " + k + " c", "key " + (k % 9 + 1) + " a");
        }
        due.reads(-3, "name b", "screen a", "key 1 b");
        due.reads(-2, "screen a", "key 1 aa");
        due.reads(-2, "screen ab", "key 1 a");
        due.reads(1, "screen a", "key 1 a");
    }

    /** A chain of screens: from each one a key leads to the one before. */
    private static String chain(int count, boolean isHomeReached) {
        StringBuilder lines = new StringBuilder();
        for (int i = 0; i < count; i++) {
            lines.append("screen ").append(Due.name(i)).append('\n');
            lines.append("key 5 ").append(Due.name(i == 1 && !isHomeReached ? count - 1 : Math.max(i - 1, 0))).append('\n');
        }
        return lines.toString();
    }

    private static void waysHome() {
        due.about("or no way by keys leads from it to HOME (it is in a RING).");
        due.reads(1, "screen a");
        due.reads(-3, "screen a", "screen b");
        due.reads(-3, "screen a", "screen b", "key 1 b");
        due.reads(-4, "screen a", "key 1 b", "screen b", "key 1 b", "key 2 c", "screen c", "key 1 b");
        due.reads(3, "screen a", "screen b", "key 1 b", "key 2 c", "screen c", "key 1 b", "key 9 a");
        for (int k = 1; k <= 9; k++) {
            due.reads(2, "screen a", "screen b", "key " + k + " a");
        }
        readsText(30, chain(30, true));
        readsText(-4, chain(30, false));
        StringBuilder back = new StringBuilder("screen home\n");
        for (int i = 0; i < 29; i++) {
            back.append("screen ").append(Due.name(i)).append("\nkey 9 ").append(i == 28 ? "home" : Due.name(i + 1)).append('\n');
        }
        readsText(30, back.toString());
    }

    private static void bothAtTheEnd() {
        due.about("of those that are WRONG at the end the first one");
        due.reads(-3, "screen a", "screen b", "screen c", "key 1 no");
        due.reads(-3, "screen a", "screen b", "key 1 no", "key 2 a", "screen c");
        due.reads(-2, "screen a", "key 1 no", "screen b", "screen c", "key 1 no");
        due.reads(-5, "screen a", "screen b", "key 1 a", "screen c", "key 1 c", "screen d", "key 1 a", "key 2 no");
        due.reads(-6, "screen a", "key 1 no", "screen b", "screen c", "x");
        due.reads(-5, "screen a", "key 1 no", "screen b", "screen a");
    }

    private static void readEmpties() {
        due.about("Reads the text, which is empty then");
        MenuScreens x = new MenuScreens(1, 1);
        due.is("right", Due.read(x, "screen a"), 1);
        due.is("empty after a right one", x.read(), 0);
        due.is("wrong", Due.read(x, "x"), -2);
        due.is("empty after a wrong one", x.read(), 0);
        due.is("wrong at the end", Due.read(x, "screen a", "screen b"), -3);
        due.is("empty after that", x.read(), 0);
        Due.type(x, "\n\n\n");
        due.is("blank", x.read(), 0);
        due.is("lines are counted from 1 on again", Due.read(x, "x"), -2);
    }

    private static void readStartsAnew() {
        due.about("how many screens there are, HOME at hand, all values as at first");
        String[] text = {"name v", "setting s 0 9 4", "screen a", "show 0 0 1 v", "show 0 1 1 s", "key 1 b", "screen b", "key 1 a"};
        MenuScreens x = due.reading(1, 3, text);
        x.value(1, 7, true);
        x.setting(2, 9);
        due.is("changed", Due.row(x, 0), "79 ");
        due.is("to the second screen", x.press(1), 2);
        due.is("the same text again", Due.read(x, text), 2);
        due.is("as at first", Due.row(x, 0), "-4 ");
        due.is("HOME is at hand", x.press(5), 1);
    }

    private static void readOfAWrongText() {
        due.about("and then there are no screens and no values.");
        String[][] wrongs = {{"name v", "setting s 0 9 4", "screen a", "put 0 0 X", "x"}, {"name v", "setting s 0 9 4", "screen a", "put 0 0 X", "screen b"}};
        for (String[] wrong : wrongs) {
            MenuScreens x = due.reading(1, 3, "name v", "setting s 0 9 4", "screen a", "put 0 0 A");
            due.is("wrong", Due.read(x, wrong), -6);
            due.is("no value", x.value(1, 0, true), -1);
            due.is("no setting", x.setting(2, 4), -1);
            due.is("no screen", x.press(1), -3);
            due.is("nothing shown", Due.row(x, 0), "   ");
            due.is("nothing barred", x.speed(999), 0);
            due.is("right again", Due.read(x, "screen a", "put 0 0 B"), 1);
            due.is("shown again", Due.row(x, 0), "B  ");
        }
    }

    private static void readWithoutAScreen() {
        due.about("0 if there is no screen.");
        MenuScreens x = due.reading(1, 2, "screen a", "put 0 0 A");
        due.is("values alone", Due.read(x, "name v", "setting s 0 9 4"), 0);
        due.is("no screen", x.press(1), -3);
        due.is("nothing shown", Due.row(x, 0), "  ");
        due.is("but a value", x.value(1, 5, true), 1);
        due.is("and a setting", x.setting(2, 5), 1);
        due.is("nothing", x.read(), 0);
        due.is("no value then", x.value(1, 5, true), -1);
    }

    private static void readKeeps() {
        due.about("WARNINGS, sums, speed and language stay.");
        String[][] texts = {{"screen a", "bar 9", "say 0 0 A B"}, {"x"}, {""}, {"screen a", "screen b"}};
        for (String[] text : texts) {
            MenuScreens x = new MenuScreens(2, 3);
            x.warn(8, 70);
            x.trip(4000, 600);
            x.speed(10);
            x.language(1);
            x.lamp(3, false);
            Due.read(x, text);
            due.is("WARNINGS", Due.row(x, 1), "!08");
            due.is("their number", x.warning(0), 1);
            due.is("their time", x.warn(8, 69), -2);
            due.is("metres", x.sum(0, 0), 4000);
            due.is("cents", x.sum(1, 0), 600);
            due.is("trips", x.trip(0, 0), 2);
            due.is("lamps", x.lamp(4, false), 2);
            due.is("speed", Due.row(x, 0), "   ");
            due.is("language", x.language(1), 1);
        }
        MenuScreens slow = new MenuScreens(1, 1);
        slow.speed(9);
        slow.language(1);
        Due.read(slow, "screen a", "bar 9", "say 0 0 A B");
        due.is("at the bar, in language 1", slow.shown(0, 0), 'B');
    }

    private static void rings() {
        due.about("The i-th screen (from 0) that was in a RING at the last read(): its number there; 0 if there is none");
        MenuScreens x = new MenuScreens(1, 1);
        due.is("before any read()", x.ring(0), 0);
        Due.read(x, "screen a", "screen b");
        due.is("the first", x.ring(0), 2);
        due.is("behind the last", x.ring(1), 0);
        due.is("before the first", x.ring(-1), 0);
        due.is("least", x.ring(Integer.MIN_VALUE), 0);
        due.is("greatest", x.ring(Integer.MAX_VALUE), 0);
        due.is("asked again", x.ring(0), 2);
        Due.read(x, "screen a", "screen b", "screen c", "key 1 a", "screen d", "key 1 b", "key 2 no");
        due.is("the second screen", x.ring(0), 2);
        due.is("the fourth screen", x.ring(1), 4);
        due.is("no other", x.ring(2), 0);
        Due.type(x, chain(30, false));
        due.is("29 screens in a RING", x.read(), -4);
        for (int i = 0; i < 29; i++) {
            due.is("ring " + i, x.ring(i), i + 2);
        }
        due.is("ring 29", x.ring(29), 0);
        due.is("ring 30", x.ring(30), 0);
        Due.read(x, "screen a", "screen b", "key 1 a");
        due.is("after a right text", x.ring(0), 0);
    }

    private static void ringsOfAWrongText() {
        due.about("or a line before the end was WRONG.");
        MenuScreens x = new MenuScreens(1, 1);
        Due.read(x, "screen a", "screen b");
        due.is("in a RING", x.ring(0), 2);
        Due.read(x, "screen a", "screen b", "screen b");
        due.is("a line before the end", x.ring(0), 0);
        Due.read(x, "screen a", "key 1 no");
        due.is("wrong at the end, but no RING", x.ring(0), 0);
        Due.read(x, "screen a", "screen b", "key 1 no");
        due.is("wrong at the end, and a RING", x.ring(0), 2);
        x.read();
        due.is("an empty text", x.ring(0), 0);
    }
}
