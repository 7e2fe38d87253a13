/** Each promise of the document: ordinary inputs, the edges that it names, wrong inputs. */
public final class PromisesTest {
    private static final Due due = new Due();

    public static void main(String[] args) {
        newObject();
        sign();
        readCounts();
        readNamesAndNumbers();
        readValueLines();
        readScreenLines();
        readPieceLines();
        readConditionLines();
        readKeyAndBarLines();
        readAtTheEnd();
        readLimits();
        readKeepsAndForgets();
        value();
        press();
        shownRowsAndWords();
        shownValues();
        shownConditions();
        shownBarsAndWarnings();
        warn();
        warning();
        accept();
        trip();
        sum();
        speed();
        language();
        ring();
        setting();
        lamp();
        due.end();
    }

    private static void hasSize(int rows, int columns, int rowsDue, int columnsDue) {
        MenuScreens x = new MenuScreens(rows, columns);
        String size = rows + " x " + columns;
        due.is(size + " last sign", x.shown(rowsDue - 1, columnsDue - 1), 32);
        due.is(size + " row behind", x.shown(rowsDue, 0), -2);
        due.is(size + " column behind", x.shown(0, columnsDue), -2);
    }

    private static void newObject() {
        hasSize(1, 1, 1, 1);
        hasSize(40, 40, 40, 40);
        hasSize(3, 20, 3, 20);
        hasSize(0, 20, 4, 16);
        hasSize(20, 0, 4, 16);
        hasSize(41, 20, 4, 16);
        hasSize(20, 41, 4, 16);
        hasSize(-1, 5, 4, 16);
        hasSize(Integer.MAX_VALUE, Integer.MIN_VALUE, 4, 16);
        MenuScreens x = new MenuScreens(4, 16);
        due.is("new press", x.press(9), -3);
        due.is("new value", x.value(1, 0, true), -1);
        due.is("new setting", x.setting(1, 0), -1);
        due.is("new ring", x.ring(0), 0);
        due.is("new warning", x.warning(0), 0);
        due.is("new language", x.language(0), 0);
        due.is("new sum", x.sum(0, 0), 0);
        due.is("new row", Due.row(x, 3), "                ");
        due.is("new read", x.read(), 0);
    }

    private static void sign() {
        MenuScreens x = new MenuScreens(1, 5);
        Due.type(x, "screen a\nput 0 0 ");
        x.sign('A' << 24 | 'B' << 16 | 'C' << 8 | 'D');
        x.sign('E');
        due.is("read", x.read(), 1);
        due.is("highest first", Due.row(x, 0), "ABCDE");
        Due.type(x, "screen a\nput 0 0 ");
        x.sign('A' << 24 | 'B' << 8);
        x.sign(0);
        x.sign(-1);
        x.sign(128 << 24 | 'C' << 16 | 255 << 8 | 'D');
        x.sign(127);
        due.is("read", x.read(), 1);
        due.is("0 and above 127 left out", Due.row(x, 0), "ABCD\u007f");
        Due.type(x, "screen a\nput 0 0 ");
        x.sign(1 << 24 | 9 << 16 | 13 << 8 | 126);
        due.is("read", x.read(), 1);
        due.is("other signs belong to words", Due.row(x, 0), "\u0001\t\r~ ");
        x.sign(11);
        due.is("a sign 11 is a word", x.read(), -2);
        MenuScreens full = new MenuScreens(1, 5);
        for (int i = 0; i < 999; i++) {
            Due.type(full, "    ");
        }
        Due.type(full, "\n\n\nx");
        Due.type(full, "\nscreen a");
        due.is("4000 signs, the last one x", full.read(), -5);
        for (int i = 0; i < 1000; i++) {
            Due.type(full, "    ");
        }
        Due.type(full, "x");
        due.is("no room for x", full.read(), 0);
    }

    private static void readCounts() {
        due.reads(0);
        due.reads(0, "", "   ", "");
        due.reads(0, "name a");
        due.reads(1, "screen a");
        due.reads(2, "  screen   a ", "", "screen b", " key  1   a ");
        due.reads(-2, "x");
        due.reads(-4, "", "  ", "x", "y");
        due.reads(-3, "screen a", "SCREEN b");
        MenuScreens x = new MenuScreens(1, 5);
        Due.type(x, "screen a\nput 0 0 X");
        due.is("last line without its end", x.read(), 1);
        due.is("its row", Due.row(x, 0), "X    ");
        due.is("the text is empty then", x.read(), 0);
        due.is("and so are the screens", x.press(1), -3);
    }

    private static void readNamesAndNumbers() {
        due.reads(0, "name abcdefgh", "name z", "name name");
        for (String name : new String[] {"abcdefghi", "A", "aB", "a1", "1", "-", "a-", "`", "{", "a{"}) {
            due.reads(-2, "name " + name);
            due.reads(-2, "screen " + name);
            due.reads(-3, "screen a", "key 1 " + name);
        }
        due.reads(0, "setting s -999999 999999 -0");
        due.reads(0, "setting s 000001 000003 2");
        for (String number : new String[] {"1234567", "0000001", "-1234567", "-", "--1", "+1", "1-", "a", "1a", "/", ":"}) {
            due.reads(-2, "setting s " + number + " 999999 999999");
            due.reads(-2, "setting s -999999 " + number + " -999999");
            due.reads(-2, "setting s -999999 999999 " + number);
            due.reads(-4, "name x", "screen a", "if x = " + number);
            due.reads(-3, "screen a", "put " + number + " 0 X");
            due.reads(-3, "screen a", "put 0 " + number + " X");
        }
    }

    private static void readValueLines() {
        due.reads(-2, "name");
        due.reads(-2, "name a b");
        due.reads(-3, "name a", "name a");
        due.reads(-3, "name a", "setting a 0 1 0");
        due.reads(-3, "setting a 0 1 0", "name a");
        due.reads(-3, "setting a 0 1 0", "setting a 0 1 0");
        due.reads(0, "setting a 1 1 1");
        due.reads(0, "setting a 1 3 1");
        due.reads(0, "setting a 1 3 3");
        due.reads(-2, "setting a 1 3 0");
        due.reads(-2, "setting a 1 3 4");
        due.reads(-2, "setting a 3 1 2");
        due.reads(-2, "setting a 1 3");
        due.reads(-2, "setting a 1 3 2 2");
        due.reads(-2, "setting A 1 3 2");
        due.reads(1, "screen a", "name a", "show 0 0 1 a");
        due.reads(-3, "screen a", "show 0 0 1 a", "name a");
    }

    private static void readScreenLines() {
        due.reads(-2, "screen");
        due.reads(-2, "screen a b");
        due.reads(-3, "screen a", "screen a");
        due.reads(1, "name a", "screen a", "show 0 0 1 a");
        String[] parts = {"put 0 0 X", "say 0 0 X Y", "show 0 0 1 v", "if v = 1", "key 1 a", "bar 1"};
        for (String part : parts) {
            due.reads(-3, "name v", part, "screen a");
            due.reads(1, "name v", "screen a", part);
            due.reads(-4, "name v", "screen a", part + " more");
            due.reads(-4, "name v", "screen a", part.substring(0, part.lastIndexOf(' ')));
            due.reads(-4, "name v", "screen a", part.substring(0, part.indexOf(' ')));
            due.reads(-4, "name v", "screen a", "x" + part);
            due.reads(-4, "name v", "screen a", part.toUpperCase());
        }
    }

    private static void readPieceLines() {
        String[][] pieces = {{"put", "X"}, {"say", "X Y"}, {"show", "1 v"}};
        for (String[] piece : pieces) {
            due.reads(1, "name v", "screen a", piece[0] + " 0 0 " + piece[1]);
            due.reads(1, "name v", "screen a", piece[0] + " 999999 999999 " + piece[1]);
            due.reads(1, "name v", "screen a", piece[0] + " -0 -0 " + piece[1]);
            due.reads(-4, "name v", "screen a", piece[0] + " -1 0 " + piece[1]);
            due.reads(-4, "name v", "screen a", piece[0] + " 0 -1 " + piece[1]);
            due.reads(-4, "name v", "screen a", piece[0] + " 0 x " + piece[1]);
        }
        due.reads(1, "name v", "screen a", "show 0 0 9 v");
        due.reads(-4, "name v", "screen a", "show 0 0 0 v");
        due.reads(-4, "name v", "screen a", "show 0 0 10 v");
        due.reads(-4, "name v", "screen a", "show 0 0 -1 v");
        due.reads(-4, "name v", "screen a", "show 0 0 x v");
        due.reads(-4, "name v", "screen a", "show 0 0 1 w");
        due.reads(-4, "name v", "screen a", "show 0 0 1 a");
        due.reads(-4, "name v", "screen a", "show 0 0 1 V");
        due.reads(-4, "name v", "screen a", "say 0 0 X Y Z");
    }

    private static void readConditionLines() {
        due.reads(1, "name v", "screen a", "if v = 1", "if v < -999999", "if v > 999999");
        due.reads(-4, "name v", "screen a", "if w = 1");
        due.reads(-4, "name v", "screen a", "if a = 1");
        due.reads(-4, "name v", "screen a", "if v ! 1");
        due.reads(-4, "name v", "screen a", "if v == 1");
        due.reads(-4, "name v", "screen a", "if v <= 1");
        due.reads(-4, "name v", "screen a", "if v=1");
        due.reads(-4, "name v", "screen a", "if v = 1 2");
    }

    private static void readKeyAndBarLines() {
        due.reads(1, "screen a", "key 1 a", "key 9 a", "key 02 a");
        due.reads(-3, "screen a", "key 0 a");
        due.reads(-3, "screen a", "key 10 a");
        due.reads(-3, "screen a", "key -1 a");
        due.reads(-3, "screen a", "key x a");
        due.reads(-4, "screen a", "key 3 a", "key 3 a");
        due.reads(-4, "screen a", "key 3 b", "key 03 a", "screen b", "key 1 a");
        due.reads(2, "screen a", "key 3 a", "screen b", "key 3 a");
        due.reads(1, "screen a", "bar 0", "bar 999", "bar 5");
        due.reads(-3, "screen a", "bar 1000");
        due.reads(-3, "screen a", "bar -1");
        due.reads(-3, "screen a", "bar x");
    }

    private static void readAtTheEnd() {
        due.reads(-2, "screen a", "key 1 b");
        due.reads(-7, "screen a", "screen b", "key 1 nowhere", "screen c", "key 1 a", "x");
        due.reads(-5, "screen a", "key 1 b", "", "screen c", "key 1 a", "key 2 nowhere", "screen b", "key 1 a");
        due.reads(-3, "name b", "screen a", "key 1 b");
        due.reads(-3, "screen a", "screen b");
        due.reads(-3, "screen a", "screen b", "key 1 b");
        due.reads(-3, "screen a", "screen b", "key 1 c", "screen c", "key 1 b");
        due.reads(-3, "screen a", "screen b", "key 1 c", "screen c", "key 1 nowhere");
        due.reads(3, "screen a", "screen b", "key 9 c", "screen c", "key 5 b", "key 9 a");
        due.reads(4, "screen a", "screen b", "key 1 c", "screen c", "key 1 d", "screen d", "key 1 a");
        due.reads(-2, "screen a", "key 1 nowhere", "screen b");
        due.reads(-2, "screen a", "key 1 a", "key 9 nowhere");
        due.reads(-4, "screen a", "key 1 nowhere", "x");
    }

    private static void readLimits() {
        StringBuilder values = new StringBuilder();
        for (int i = 0; i < 40; i++) {
            values.append(i % 2 == 0 ? "name " + Due.name(i) + "\n" : "setting " + Due.name(i) + " 0 1 0\n");
        }
        MenuScreens x = new MenuScreens(4, 16);
        Due.type(x, values.toString());
        due.is("40 values", x.read(), 0);
        due.is("value 39", x.value(39, 1, true), 1);
        due.is("setting 40", x.setting(40, 1), 1);
        due.is("value 41", x.value(41, 1, true), -1);
        Due.type(x, values + "name zz");
        due.is("41 values", x.read(), -42);
        Due.type(x, values + "setting zz 0 1 0");
        due.is("41 values, a setting", x.read(), -42);

        StringBuilder screens = new StringBuilder();
        for (int i = 0; i < 30; i++) {
            screens.append("screen ").append(Due.name(i)).append("\nkey 1 ").append(Due.name(i == 0 ? 29 : i - 1)).append("\n");
        }
        MenuScreens y = new MenuScreens(4, 16);
        Due.type(y, screens.toString());
        due.is("30 screens in a long way", y.read(), 30);
        due.is("to the last one", y.press(1), 30);
        due.is("and one back", y.press(1), 29);
        Due.type(y, screens + "screen zz\nkey 1 " + Due.name(0));
        due.is("31 screens", y.read(), -62);
        due.is("no screens then", y.press(1), -3);
    }

    private static void readKeepsAndForgets() {
        MenuScreens x = due.reading(2, 6, "name v", "setting s 0 9 4", "screen a", "say 0 0 ONE EIN",
                "show 1 4 1 s", "key 1 b", "screen b", "bar 10", "put 0 0 B", "key 1 a");
        x.press(1);
        x.setting(2, 7);
        x.value(1, 5, true);
        x.language(1);
        x.speed(11);
        x.warn(42, 100);
        x.trip(2000, 300);
        due.is("again", Due.read(x, "name v", "setting s 0 9 4", "screen a", "say 0 0 ONE EIN",
                "show 0 4 1 s", "show 0 5 1 v", "show 1 4 1 s", "key 1 b", "screen b", "bar 10", "key 1 a"), 2);
        due.is("HOME at hand, values as at first", Due.row(x, 0), "EIN 4-");
        due.is("warnings stay", Due.row(x, 1), "!42 4 ");
        due.is("to the barred screen", x.press(1), 2);
        due.is("speed stays", x.press(1), 2);
        due.is("metres stay", x.sum(0, 0), 2000);
        due.is("wrong", Due.read(x, "screen a", "x"), -3);
        due.is("no screen then", x.press(1), -3);
        due.is("no value then", x.value(1, 0, true), -1);
        due.is("no setting then", x.setting(2, 0), -1);
        due.is("nothing is shown", Due.row(x, 0), "      ");
        due.is("but the warning", Due.row(x, 1), "!42   ");
        due.is("language stays", x.language(0), 1);
        due.is("right again", Due.read(x, "screen q", "put 0 0 Q"), 1);
        due.is("wrong at the end", Due.read(x, "name v", "screen a", "screen b"), -4);
        due.is("no screen then", x.press(1), -3);
        due.is("no value then", x.value(1, 0, true), -1);
        due.is("values without a screen", Due.read(x, "name v"), 0);
        due.is("are there", x.value(1, 0, true), 1);
    }

    private static void value() {
        MenuScreens x = due.reading(1, 7, "name a", "setting s 0 5 3", "name b", "screen h", "show 0 0 7 b");
        due.is("number 0", x.value(0, 1, true), -1);
        due.is("number 4", x.value(4, 1, true), -1);
        due.is("number below 0", x.value(Integer.MIN_VALUE, 1, true), -1);
        due.is("unknown before outside", x.value(4, 1000000, true), -1);
        due.is("least", x.value(3, -999999, true), 1);
        due.is("least shown", Due.row(x, 0), "-999999");
        due.is("below", x.value(3, -1000000, true), -2);
        due.is("far below", x.value(3, Long.MIN_VALUE, false), -2);
        due.is("a refusal changes nothing", Due.row(x, 0), "-999999");
        due.is("greatest", x.value(3, 999999, true), 1);
        due.is("greatest shown", Due.row(x, 0), " 999999");
        due.is("above", x.value(3, 1000000, true), -2);
        due.is("wraps to 1", x.value(3, (1L << 32) + 1, true), -2);
        due.is("a setting", x.value(2, 4, true), -3);
        due.is("outside before not in this state", x.value(2, 1000000, true), -2);
        due.is("not valid", x.value(3, 7, false), 1);
        due.is("not valid shown", Due.row(x, 0), "-------");
        due.is("another one", x.value(1, 8, true), 1);
        due.is("is another one", Due.row(x, 0), "-------");
        due.is("valid again", x.value(3, 0, true), 1);
        due.is("valid again shown", Due.row(x, 0), "      0");
    }

    private static void press() {
        MenuScreens x = due.reading(1, 3, "screen a", "key 1 b", "key 9 c", "screen b", "bar 20", "key 1 c",
                "key 2 a", "key 9 a", "screen c", "bar 20", "key 1 a");
        due.is("key 0", x.press(0), -2);
        due.is("key 10", x.press(10), -2);
        due.is("key -1", x.press(-1), -2);
        due.is("key without a line", x.press(5), 1);
        due.is("key 1", x.press(1), 2);
        x.speed(20);
        due.is("at the bar", x.press(1), 3);
        due.is("home", x.press(1), 1);
        x.speed(21);
        due.is("no bar", x.press(1), 2);
        due.is("barred", x.press(1), 2);
        due.is("barred", x.press(2), 2);
        due.is("9 is free", x.press(9), 1);
        due.is("9 leads on", x.press(9), 3);
        due.is("9 without a line", x.press(9), 3);
        x.speed(0);
        due.is("slow again", x.press(1), 1);
        MenuScreens none = new MenuScreens(1, 1);
        due.is("no screen", none.press(1), -3);
        due.is("outside before not in this state", none.press(10), -2);
    }

    private static void shownRowsAndWords() {
        MenuScreens x = due.reading(3, 6, "screen a", "put 0 0 ABCDEFGH", "put 1 4 XYZ", "put 1 6 Q", "put 3 0 W",
                "put 0 2 12", "say 2 0 ONE ZWEI", "say 2 4 XY -", "put 999999 999999 Q", "screen b", "put 0 0 B", "key 1 a");
        due.is("row 0", Due.row(x, 0), "AB12EF");
        due.is("row 1", Due.row(x, 1), "    XY");
        due.is("row 2", Due.row(x, 2), "ONE XY");
        x.language(1);
        due.is("row 2 in language 1", Due.row(x, 2), "ZWEIXY");
        due.is("row 0 in language 1", Due.row(x, 0), "AB12EF");
        x.language(0);
        due.is("row 2 in language 0", Due.row(x, 2), "ONE XY");
        due.is("row -1", x.shown(-1, 0), -2);
        due.is("row 3", x.shown(3, 0), -2);
        due.is("column -1", x.shown(0, -1), -2);
        due.is("column 6", x.shown(0, 6), -2);
        due.is("far away", x.shown(Integer.MAX_VALUE, Integer.MIN_VALUE), -2);
        MenuScreens say = due.reading(1, 6, "screen a", "say 0 0 - ABC", "say 0 3 A --");
        due.is("language 0", Due.row(say, 0), "-  A  ");
        say.language(1);
        due.is("language 1", Due.row(say, 0), "ABC-- ");
    }

    private static void showsValue(int width, long v, String want) {
        MenuScreens x = due.reading(1, 9, "name v", "screen a", "put 0 0 ABCDEFGHI", "show 0 0 " + width + " v");
        x.value(1, v, true);
        due.is(v + " in " + width, Due.row(x, 0), want);
    }

    private static void shownValues() {
        showsValue(1, 0, "0BCDEFGHI");
        showsValue(1, 9, "9BCDEFGHI");
        showsValue(1, 10, "#BCDEFGHI");
        showsValue(1, -1, "#BCDEFGHI");
        showsValue(2, -9, "-9CDEFGHI");
        showsValue(3, -9, " -9DEFGHI");
        showsValue(3, -10, "-10DEFGHI");
        showsValue(3, 5, "  5DEFGHI");
        showsValue(3, 120, "120DEFGHI");
        showsValue(3, 1234, "###DEFGHI");
        showsValue(3, -123, "###DEFGHI");
        showsValue(9, 999999, "   999999");
        showsValue(9, -100200, "  -100200");
        MenuScreens x = due.reading(2, 5, "name v", "setting s -5 5 -3", "screen a", "put 0 0 AAAAA", "show 0 1 3 v",
                "show 1 3 4 s");
        due.is("not valid", Due.row(x, 0), "A---A");
        due.is("beyond the columns", Due.row(x, 1), "     ");
        MenuScreens cut = due.reading(1, 3, "setting s -99999 5 -98765", "screen a", "show 0 1 6 s");
        due.is("cut at the right", Due.row(cut, 0), " -9");
    }

    private static void shownConditions() {
        MenuScreens x = due.reading(2, 6, "name v", "name w", "screen a", "put 0 0 .", "if v = 5", "put 0 0 E", "if v < 5",
                "put 0 1 L", "if v > 5", "say 0 2 G H", "if v > 0", "key 1 b", "name u", "bar 999", "if w = 1", "show 0 3 1 v",
                "put 0 4 P", "if w = 7", "screen b", "put 0 0 B", "key 1 a");
        due.is("not valid", Due.row(x, 0), ".   P ");
        x.value(1, 5, true);
        due.is("5", Due.row(x, 0), "E   P ");
        x.value(1, 4, true);
        due.is("4", Due.row(x, 0), ".L  P ");
        x.value(1, 6, true);
        due.is("6", Due.row(x, 0), ". G P ");
        x.value(2, 1, true);
        due.is("both", Due.row(x, 0), ". G6P ");
        x.value(1, 0, true);
        due.is("the second one alone", Due.row(x, 0), ".L  P ");
        x.value(1, 5, false);
        due.is("5, not valid", Due.row(x, 0), ".   P ");
        x.press(1);
        due.is("an if ends with its screen", Due.row(x, 0), "B     ");
        MenuScreens s = due.reading(1, 2, "setting s 0 9 4", "screen a", "if s > 4", "put 0 0 X");
        due.is("4", Due.row(s, 0), "  ");
        s.setting(1, 5);
        due.is("5", Due.row(s, 0), "X ");
    }

    private static void shownBarsAndWarnings() {
        MenuScreens x = due.reading(2, 6, "screen a", "bar 5", "bar 100", "put 0 0 ABCDEF", "put 1 0 ABCDEF", "key 1 b",
                "screen b", "put 0 0 B", "key 1 a");
        x.speed(100);
        due.is("at the bar", Due.row(x, 0), "ABCDEF");
        x.warn(7, 0);
        due.is("warning over all else", Due.row(x, 1), "!07DEF");
        due.is("in the last row alone", Due.row(x, 0), "ABCDEF");
        x.speed(101);
        due.is("above the bar", Due.row(x, 0), "      ");
        due.is("but the warning", Due.row(x, 1), "!07   ");
        x.speed(99);
        x.warn(99, 5);
        due.is("the greatest rank", Due.row(x, 1), "!99DEF");
        x.warn(98, 36);
        due.is("still", Due.row(x, 1), "!99DEF");
        x.accept(2);
        due.is("the greatest not accepted", Due.row(x, 1), "!98DEF");
        x.warn(0, 100);
        x.accept(3);
        x.accept(1);
        due.is("rank 0", Due.row(x, 1), "!00DEF");
        x.warn(0, 130);
        x.warn(0, 160);
        x.accept(4);
        x.accept(5);
        due.is("rank 0 again", Due.row(x, 1), "!00DEF");
        MenuScreens none = new MenuScreens(1, 2);
        none.warn(35, 1);
        due.is("no screen, two columns", Due.row(none, 0), "!3");
        MenuScreens last = new MenuScreens(1, 4);
        last.warn(35, 1);
        last.warn(35, 31);
        last.accept(1);
        due.is("one left", Due.row(last, 0), "!35 ");
    }

    private static void warn() {
        MenuScreens x = new MenuScreens(1, 4);
        due.is("rank -1", x.warn(-1, 0), -2);
        due.is("rank 100", x.warn(100, 0), -2);
        due.is("time -1", x.warn(0, -1), -2);
        due.is("least time", x.warn(0, Long.MIN_VALUE), -2);
        due.is("first", x.warn(0, 0), 1);
        due.is("same time", x.warn(99, 0), 2);
        due.is("later", x.warn(50, 40), 3);
        due.is("less than before", x.warn(50, 39), -2);
        due.is("refused rank tells no time", x.warn(100, 1000), -2);
        due.is("at the time before", x.warn(50, 40), 4);
        for (int n = 5; n <= 199; n++) {
            due.is("number", x.warn(n % 100, 40 + n), n);
        }
        due.is("accepted ones count too", x.accept(1), 198);
        due.is("the 200th", x.warn(1, Long.MAX_VALUE - 1), 200);
        due.is("no room", x.warn(1, Long.MAX_VALUE), -4);
        due.is("a refusal tells no time", x.accept(200), -3);
        due.is("outside before no room", x.warn(1, 5), -2);
        due.is("outside before no room", x.warn(100, Long.MAX_VALUE), -2);
        due.is("one more accepted", x.accept(2), 198);
        due.is("makes no room", x.warn(1, Long.MAX_VALUE), -4);
    }

    private static String warnings(MenuScreens x) {
        StringBuilder all = new StringBuilder();
        for (int i = 0; i < 10; i++) {
            all.append(x.warning(i)).append(' ');
        }
        return all.toString().trim();
    }

    private static void warning() {
        MenuScreens x = new MenuScreens(1, 4);
        due.is("none", x.warning(0), 0);
        x.warn(5, 10);
        x.warn(70, 10);
        x.warn(5, 10);
        x.warn(70, 12);
        x.warn(99, 12);
        x.warn(0, 13);
        x.warn(6, 60);
        due.is("by rank, time, number", warnings(x), "5 2 4 7 1 3 6 0 0 0");
        x.accept(2);
        due.is("without 2", warnings(x), "5 4 7 1 3 6 0 0 0 0");
        x.accept(6);
        x.accept(5);
        due.is("without 6 and 5", warnings(x), "4 7 1 3 0 0 0 0 0 0");
        x.warn(70, 60);
        due.is("8 behind 4", warnings(x), "4 8 7 1 3 0 0 0 0 0");
        due.is("below 0", x.warning(-1), 0);
        due.is("far", x.warning(Integer.MAX_VALUE), 0);
        due.is("far below", x.warning(Integer.MIN_VALUE), 0);
    }

    private static void accept() {
        MenuScreens x = new MenuScreens(1, 4);
        due.is("none", x.accept(1), -1);
        x.warn(5, 100);
        x.warn(9, 101);
        due.is("number 0", x.accept(0), -1);
        due.is("number 3", x.accept(3), -1);
        due.is("number below 0", x.accept(Integer.MIN_VALUE), -1);
        due.is("too early", x.accept(1), -3);
        x.warn(1, 129);
        due.is("29 behind", x.accept(1), -3);
        x.warn(1, 130);
        due.is("30 behind, though not of the greatest rank", x.accept(1), 3);
        due.is("it was", x.accept(1), -1);
        due.is("29 behind", x.accept(2), -3);
        x.warn(100, 1000);
        due.is("a refused warning tells no time", x.accept(2), -3);
        x.warn(3, Long.MAX_VALUE);
        due.is("far behind", x.accept(2), 3);
        due.is("the next", x.accept(4), 2);
        due.is("the next", x.accept(3), 1);
        due.is("the last is too early", x.accept(5), -3);
        x.warn(3, Long.MAX_VALUE);
        due.is("still", x.accept(5), -3);
        MenuScreens full = new MenuScreens(1, 4);
        for (int n = 1; n <= 200; n++) {
            full.warn(50, n);
        }
        due.is("number 201", full.accept(201), -1);
        due.is("the last of its rank that is late enough", full.accept(170), 199);
        due.is("it was", full.accept(170), -1);
        due.is("the next one is too early", full.accept(171), -3);
        MenuScreens least = new MenuScreens(1, 4);
        least.warn(1, 0);
        least.warn(2, 30);
        due.is("the least rank", least.accept(1), 1);
        due.is("it was", least.accept(1), -1);
    }

    private static void trip() {
        MenuScreens x = new MenuScreens(1, 4);
        due.is("first", x.trip(0, 0), 1);
        due.is("second", x.trip(1000000000, 1000000000), 2);
        due.is("metres below", x.trip(-1, 0), -2);
        due.is("cents below", x.trip(0, -1), -2);
        due.is("metres above", x.trip(1000000001, 0), -2);
        due.is("cents above", x.trip(0, 1000000001), -2);
        due.is("far", x.trip(Long.MAX_VALUE, Long.MIN_VALUE), -2);
        due.is("wraps", x.trip((1L << 32) + 5, 1L << 32), -2);
        due.is("third", x.trip(3, 4), 3);
        due.is("metres", x.sum(0, 0), 1000000003L);
        due.is("cents", x.sum(1, 0), 1000000004L);
    }

    private static void sums(MenuScreens x, long above, long below) {
        due.is("above", x.sum(2, 0), above);
        due.is("below", x.sum(2, 1), below);
        due.is("below, another side", x.sum(2, -7), below);
    }

    private static void sum() {
        MenuScreens x = new MenuScreens(1, 4);
        sums(x, 0, 0);
        x.trip(0, 500);
        sums(x, 0, 0);
        x.trip(1500, 0);
        sums(x, 1000, 3);
        due.is("metres, any side", x.sum(0, 5), 1500);
        due.is("cents, any side", x.sum(1, 5), 500);
        x.trip(500, 0);
        sums(x, 250, 1);
        due.is("what 3", x.sum(3, 0), -2);
        due.is("what -1", x.sum(-1, 0), -2);
        due.is("what far", x.sum(Integer.MIN_VALUE, 1), -2);
        MenuScreens free = new MenuScreens(1, 4);
        free.trip(77, 0);
        sums(free, 0, 1);
        MenuScreens far = new MenuScreens(1, 4);
        for (int i = 0; i < 500; i++) {
            far.trip(1000000000, 999999999);
        }
        due.is("all metres", far.sum(0, 0), 500000000000L);
        due.is("all cents", far.sum(1, 0), 499999999500L);
        sums(far, 999999999L, 1000000L);
    }

    private static void speed() {
        MenuScreens x = due.reading(1, 3, "screen a", "bar 50", "put 0 0 A", "key 9 b", "screen b", "key 1 a", "bar 999",
                "screen c", "key 1 a");
        due.is("0", x.speed(0), 0);
        due.is("50", x.speed(50), 0);
        due.is("51", x.speed(51), 1);
        due.is("999", x.speed(999), 1);
        due.is("1000", x.speed(1000), -2);
        due.is("-1", x.speed(-1), -2);
        due.is("far", x.speed(Long.MAX_VALUE), -2);
        due.is("wraps to 1", x.speed((1L << 32) + 1), -2);
        due.is("a refusal changes nothing", Due.row(x, 0), "   ");
        x.press(9);
        due.is("another screen", x.speed(999), 0);
        x.press(1);
        due.is("back, 60", x.speed(60), 1);
        due.is("none", new MenuScreens(1, 1).speed(999), 0);
        MenuScreens slow = due.reading(1, 3, "screen a", "bar 0");
        due.is("bar 0 at 0", slow.speed(0), 0);
        due.is("bar 0 at 1", slow.speed(1), 1);
        due.is("the last bar counts", due.reading(1, 1, "screen a", "bar 9", "bar 3").speed(4), 1);
        due.is("the last bar counts", due.reading(1, 1, "screen a", "bar 3", "bar 9").speed(4), 0);
    }

    private static void language() {
        MenuScreens x = due.reading(1, 2, "screen a", "say 0 0 A B");
        due.is("2", x.language(2), -2);
        due.is("-1", x.language(-1), -2);
        due.is("1", x.language(1), 0);
        due.is("shown in 1", Due.row(x, 0), "B ");
        due.is("1 again", x.language(1), 1);
        due.is("refused", x.language(Integer.MAX_VALUE), -2);
        due.is("0", x.language(0), 1);
        due.is("shown in 0", Due.row(x, 0), "A ");
        due.is("0 again", x.language(0), 0);
    }

    private static String rings(MenuScreens x) {
        StringBuilder all = new StringBuilder();
        for (int i = 0; i < 5; i++) {
            all.append(x.ring(i)).append(' ');
        }
        return all.toString().trim();
    }

    private static void ring() {
        MenuScreens x = new MenuScreens(1, 4);
        Due.read(x, "screen a", "key 1 b", "screen b", "key 1 b", "screen c", "key 1 a", "screen d", "key 1 b",
                "screen e", "key 1 nowhere", "screen f", "key 1 e", "key 2 c");
        due.is("three", rings(x), "2 4 5 0 0");
        due.is("below 0", x.ring(-1), 0);
        due.is("far", x.ring(Integer.MAX_VALUE), 0);
        due.is("far below", x.ring(Integer.MIN_VALUE), 0);
        Due.type(x, "screen a\nscreen b\n");
        x.warn(1, 1);
        due.is("until the next read", rings(x), "2 4 5 0 0");
        due.is("read", x.read(), -3);
        due.is("one", rings(x), "2 0 0 0 0");
        Due.read(x, "screen a", "screen b", "x");
        due.is("a line before the end", rings(x), "0 0 0 0 0");
        Due.read(x, "screen a", "screen b");
        x.read();
        due.is("an empty text", rings(x), "0 0 0 0 0");
        Due.read(x, "screen a", "screen b");
        Due.read(x, "screen a", "screen b", "key 1 a");
        due.is("a right text", rings(x), "0 0 0 0 0");
        Due.read(x, "screen a", "key 1 nowhere");
        due.is("HOME is in none", rings(x), "0 0 0 0 0");
    }

    private static void setting() {
        MenuScreens x = due.reading(1, 3, "name a", "setting s -2 3 1", "screen h", "show 0 0 2 s");
        due.is("first", Due.row(x, 0), " 1 ");
        due.is("low", x.setting(2, -2), 1);
        due.is("low shown", Due.row(x, 0), "-2 ");
        due.is("below", x.setting(2, -3), 0);
        due.is("far below", x.setting(2, Long.MIN_VALUE), 0);
        due.is("not changed", Due.row(x, 0), "-2 ");
        due.is("high", x.setting(2, 3), 1);
        due.is("above", x.setting(2, 4), 0);
        due.is("wraps to 1", x.setting(2, (1L << 32) + 1), 0);
        due.is("high shown", Due.row(x, 0), " 3 ");
        due.is("no setting", x.setting(1, 0), -3);
        due.is("no setting, far", x.setting(1, Long.MAX_VALUE), -3);
        due.is("number 0", x.setting(0, 0), -1);
        due.is("number 3", x.setting(3, 0), -1);
        due.is("number below 0", x.setting(-1, 0), -1);
    }

    private static void lamp() {
        MenuScreens x = new MenuScreens(1, 4);
        due.is("works", x.lamp(0, true), 0);
        due.is("0 does not", x.lamp(0, false), 1);
        due.is("0 again", x.lamp(0, false), 1);
        due.is("15 does not", x.lamp(15, false), 2);
        due.is("16", x.lamp(16, false), -1);
        due.is("-1", x.lamp(-1, false), -1);
        due.is("32", x.lamp(32, false), -1);
        due.is("far", x.lamp(Integer.MIN_VALUE, true), -1);
        due.is("0 works", x.lamp(0, true), 1);
        for (int i = 0; i < 16; i++) {
            due.is("lamp " + i, x.lamp(i, false), Math.min(i + 2, 16));
        }
        for (int i = 0; i < 16; i++) {
            due.is("lamp " + i, x.lamp(i, true), 15 - i);
        }
    }
}
