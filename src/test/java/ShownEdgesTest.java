/**
 * The edges of what is shown and of the calls that change it, sentence by sentence: for each bound the
 * last input that is inside and the first that is outside, nothing at all, and all the room full.
 */
public final class ShownEdgesTest {
    private static final Due due = new Due();

    public static void main(String[] args) {
        nothingAtFirst();
        laterLinesOverEarlierOnes();
        placesOfWords();
        wordsBeyondTheEdges();
        valuesBeyondTheEdges();
        wordsInTwoLanguages();
        digitsOfValues();
        valuesThatAreNotValid();
        valuesThatAreTooLong();
        conditionsAtTheirNumber();
        conditionsAtTheEndsOfNumbers();
        conditionsOfValuesNotValid();
        conditionsForTheNextOneAlone();
        severalConditions();
        screensAboveTheirBar();
        keysAboveTheBar();
        severalBars();
        warningsInTheLastRow();
        digitsOfTheRank();
        signsThatAreNone();
        valueRange();
        valueNumbers();
        valuesThatAreSettings();
        keys();
        keysWithoutAScreen();
        speeds();
        speedsWithoutAScreen();
        languages();
        settingBounds();
        settingNumbers();
        due.end();
    }

    private static String whole(MenuScreens x, int rows) {
        StringBuilder all = new StringBuilder();
        for (int row = 0; row < rows; row++) {
            all.append(row == 0 ? "" : "/").append(Due.row(x, row));
        }
        return all.toString();
    }

    private static void nothingAtFirst() {
        due.about("SHOWN are rows of signs, 32 at first");
        due.is("no text", whole(new MenuScreens(2, 3), 2), "   /   ");
        due.is("no screen", whole(due.reading(2, 3, "name v"), 2), "   /   ");
        due.is("a screen without lines", whole(due.reading(2, 3, "screen a"), 2), "   /   ");
        due.is("a screen without lines that show", whole(due.reading(2, 3, "name v", "screen a", "key 1 a", "bar 5", "if v = 1"), 2), "   /   ");
        due.is("one sign", whole(due.reading(1, 1, "screen a"), 1), " ");
    }

    private static void laterLinesOverEarlierOnes() {
        due.about("lines of the screen at hand, in their order, later ones over earlier ones.");
        due.is("put over put", Due.row(due.reading(1, 5, "screen a", "put 0 0 ABCDE", "put 0 1 XY"), 0), "AXYDE");
        due.is("the longer one later", Due.row(due.reading(1, 5, "screen a", "put 0 1 XY", "put 0 0 ABCDE"), 0), "ABCDE");
        due.is("say over show", Due.row(due.reading(1, 5, "setting s 0 9 7", "screen a", "show 0 0 5 s", "say 0 3 PQ -"), 0), "   PQ");
        due.is("spaces of a value are over earlier ones", Due.row(due.reading(1, 5, "setting s 0 9 7", "screen a", "put 0 0 ABCDE", "show 0 1 3 s"), 0), "A  7E");
        MenuScreens x = due.reading(1, 2, "setting s 0 9 7", "screen a", "put 0 0 AB", "if s = 8", "put 0 0 CD");
        due.is("one that is not shown is over nothing", Due.row(x, 0), "AB");
        x.setting(1, 8);
        due.is("one that is shown is", Due.row(x, 0), "CD");
        MenuScreens two = due.reading(1, 2, "screen a", "put 0 0 A", "key 1 b", "screen b", "put 0 1 B", "key 1 a");
        due.is("of HOME alone", Due.row(two, 0), "A ");
        two.press(1);
        due.is("of the second screen alone", Due.row(two, 0), " B");
    }

    private static void placesOfWords() {
        due.about("its signs from row r, column c on, to the right.");
        due.is("first and last row and column", whole(due.reading(3, 4, "screen a", "put 0 0 A", "put 0 3 B", "put 2 0 C", "put 2 3 D", "put 1 1 EF"), 3),
                "A  B/ EF /C  D");
        due.is("as long as the row", Due.row(due.reading(1, 4, "screen a", "put 0 0 ABCD"), 0), "ABCD");
        MenuScreens x = due.reading(40, 40, "screen a", "put 0 0 A", "put 39 39 Z", "put 39 0 Y", "put 0 39 X");
        due.is("first of 40 x 40", x.shown(0, 0), 'A');
        due.is("last of 40 x 40", x.shown(39, 39), 'Z');
        due.is("last row", x.shown(39, 0), 'Y');
        due.is("last column", x.shown(0, 39), 'X');
    }

    private static void wordsBeyondTheEdges() {
        due.about("what is beyond the rows and columns is not shown.");
        due.is("one too long", whole(due.reading(2, 4, "screen a", "put 0 0 ABCDE"), 2), "ABCD/    ");
        due.is("in the last column", whole(due.reading(2, 4, "screen a", "put 0 3 XYZ"), 2), "   X/    ");
        due.is("in the column beyond", whole(due.reading(2, 4, "screen a", "put 0 4 X", "put 0 999999 X"), 2), "    /    ");
        due.is("in the last row", whole(due.reading(2, 4, "screen a", "put 1 0 X"), 2), "    /X   ");
        due.is("in the row beyond", whole(due.reading(2, 4, "screen a", "put 2 0 X", "put 999999 0 X"), 2), "    /    ");
        due.is("a word of 1500 signs", whole(due.reading(1, 3, "screen a", "put 0 1 " + "PQ".repeat(750)), 1), " PQ");
    }

    private static void valuesBeyondTheEdges() {
        due.about("what is beyond the rows and columns is not shown.");
        String[] setting = {"setting s -99999 5 -98765", "screen a"};
        due.is("all of it", Due.row(due.reading(1, 7, setting[0], setting[1], "show 0 1 6 s"), 0), " -98765");
        due.is("one column less", Due.row(due.reading(1, 6, setting[0], setting[1], "show 0 1 6 s"), 0), " -9876");
        due.is("its first sign alone", Due.row(due.reading(1, 2, setting[0], setting[1], "show 0 1 6 s"), 0), " -");
        due.is("none of it", Due.row(due.reading(1, 1, setting[0], setting[1], "show 0 1 6 s"), 0), " ");
        due.is("too long for n, not for the row", Due.row(due.reading(1, 3, setting[0], setting[1], "show 0 1 5 s"), 0), " ##");
        due.is("not valid", Due.row(due.reading(1, 3, "name v", "screen a", "show 0 1 9 v"), 0), " --");
    }

    private static void wordsInTwoLanguages() {
        due.about("the first one, or in language 1 the second one, unless that is -.");
        MenuScreens x = due.reading(4, 3, "screen a", "say 0 0 ABC XY", "say 1 0 ABC -", "say 2 0 - XY", "say 3 0 ABC --");
        due.is("language 0", whole(x, 4), "ABC/ABC/-  /ABC");
        x.language(1);
        due.is("language 1", whole(x, 4), "XY /ABC/XY /-- ");
        x.language(0);
        due.is("language 0 again", whole(x, 4), "ABC/ABC/-  /ABC");
        MenuScreens put = due.reading(2, 3, "screen a", "put 0 0 -", "say 1 0 - -");
        put.language(1);
        due.is("- in language 1", whole(put, 2), "-  /-  ");
    }

    private static void shows(int n, long v, String want) {
        MenuScreens x = due.reading(1, 11, "name v", "screen a", "put 0 0 ...........", "show 0 1 " + n + " v");
        due.is("value(1, " + v + ")", x.value(1, v, true), 1);
        due.is(v + " in " + n + " columns", Due.row(x, 0), "." + want + ".".repeat(10 - n));
    }

    private static void digitsOfValues() {
        due.about("its digits, - before them if it is below 0, at the right, spaces before");
        shows(1, 0, "0");
        shows(1, 9, "9");
        shows(2, -1, "-1");
        shows(2, 0, " 0");
        shows(2, 10, "10");
        shows(3, -9, " -9");
        shows(3, -10, "-10");
        shows(6, 999999, "999999");
        shows(7, 999999, " 999999");
        shows(7, -999999, "-999999");
        shows(8, -999999, " -999999");
        shows(9, 100000, "   100000");
        shows(9, -100000, "  -100000");
        shows(9, 0, "        0");
        shows(9, 7, "        7");
        long power = 1;
        for (int digits = 1; digits <= 5; digits++) {
            power *= 10;
            shows(digits, power - 1, "9".repeat(digits));
            shows(digits + 1, power, "1" + "0".repeat(digits));
            shows(digits + 1, 1 - power, "-" + "9".repeat(digits));
        }
    }

    private static void valuesThatAreNotValid() {
        due.about("n times - if it is not valid");
        for (int n = 1; n <= 9; n++) {
            MenuScreens x = due.reading(1, 11, "name v", "screen a", "put 0 0 ...........", "show 0 1 " + n + " v");
            String want = "." + "-".repeat(n) + ".".repeat(10 - n);
            due.is("not valid at first, n = " + n, Due.row(x, 0), want);
            x.value(1, 999999, false);
            due.is("too long, but not valid, n = " + n, Due.row(x, 0), want);
        }
    }

    private static void valuesThatAreTooLong() {
        due.about("n times # if it is too long.");
        shows(1, 10, "#");
        shows(1, -1, "#");
        shows(1, 999999, "#");
        shows(2, 99, "99");
        shows(2, 100, "##");
        shows(2, -10, "##");
        shows(3, 1000, "###");
        shows(3, -100, "###");
        shows(5, 99999, "99999");
        shows(5, 100000, "#####");
        shows(6, -99999, "-99999");
        shows(6, -100000, "######");
        shows(6, -999999, "######");
    }

    /** Which of the ops = < > hold for a value and a number. */
    private static String holding(long v, boolean valid, int number) {
        MenuScreens x = due.reading(1, 3, "name v", "screen a", "if v = " + number, "put 0 0 =", "if v < " + number, "put 0 1 <", "if v > " + number, "put 0 2 >");
        due.is("value", x.value(1, v, valid), 1);
        return Due.row(x, 0);
    }

    private static void conditionsAtTheirNumber() {
        due.about("is shown only while the value is valid and that holds");
        for (int number : new int[] {0, 1, -1, 9, 500, -500}) {
            due.is("one less than " + number, holding(number - 1, true, number), " < ");
            due.is("just " + number, holding(number, true, number), "=  ");
            due.is("one more than " + number, holding(number + 1, true, number), "  >");
        }
    }

    private static void conditionsAtTheEndsOfNumbers() {
        due.about("if NAME op NUMBER");
        due.is("the least", holding(-999999, true, -999999), "=  ");
        due.is("above the least", holding(-999998, true, -999999), "  >");
        due.is("the greatest", holding(999999, true, 999999), "=  ");
        due.is("below the greatest", holding(999998, true, 999999), " < ");
        due.is("the least and the greatest", holding(-999999, true, 999999), " < ");
        due.is("the greatest and the least", holding(999999, true, -999999), "  >");
    }

    private static void conditionsOfValuesNotValid() {
        due.about("is shown only while the value is valid and that holds");
        for (int v = 4; v <= 6; v++) {
            due.is(v + ", not valid", holding(v, false, 5), "   ");
        }
        MenuScreens x = due.reading(1, 2, "name v", "screen a", "if v = 5", "put 0 0 X");
        due.is("at first", Due.row(x, 0), "  ");
        x.value(1, 5, true);
        due.is("valid", Due.row(x, 0), "X ");
        x.value(1, 5, false);
        due.is("not valid any more", Due.row(x, 0), "  ");
        MenuScreens s = due.reading(1, 2, "setting s 0 9 5", "screen a", "if s = 5", "put 0 0 X");
        due.is("a setting is valid at first", Due.row(s, 0), "X ");
        s.setting(1, 6);
        due.is("set to another", Due.row(s, 0), "  ");
    }

    private static void conditionsForTheNextOneAlone() {
        due.about("the next put, say or show of the screen");
        for (String piece : new String[] {"put 0 0 P", "say 0 0 P -", "show 0 0 1 p"}) {
            MenuScreens x = due.reading(1, 3, "setting p 0 9 8", "setting s 0 1 0", "screen a", "if s = 1", piece, "put 0 1 Q", "put 0 2 R");
            due.is(piece + " is not shown, the next is", Due.row(x, 0), " QR");
            x.setting(2, 1);
            due.is(piece + " is shown", x.shown(0, 0) == 32 ? 0 : 1, 1);
        }
        MenuScreens last = due.reading(1, 2, "setting s 0 1 0", "screen a", "put 0 1 A", "key 1 b", "if s = 1", "screen b", "put 0 0 B", "key 1 a");
        due.is("none before it", Due.row(last, 0), " A");
        last.press(1);
        due.is("none of the next screen", Due.row(last, 0), "B ");
        MenuScreens between = due.reading(1, 1, "setting s 0 1 0", "screen a", "if s = 1", "key 1 a", "bar 999", "", "name v", "setting t 0 1 0", "put 0 0 X");
        due.is("over other lines", between.shown(0, 0), 32);
    }

    private static void severalConditions() {
        due.about("(several ifs before one: all of them).");
        MenuScreens x = due.reading(1, 1, "setting r 0 1 0", "setting s 0 1 0", "setting t 0 1 0", "screen a", "if r = 1", "if s = 1", "if t = 1", "put 0 0 X");
        for (int bits = 0; bits < 8; bits++) {
            for (int k = 0; k < 3; k++) {
                x.setting(k + 1, bits >> k & 1);
            }
            due.is("ifs that hold: " + Integer.toBinaryString(bits), x.shown(0, 0), bits == 7 ? 'X' : 32);
        }
        MenuScreens range = due.reading(1, 1, "name v", "screen a", "if v > 2", "if v < 5", "put 0 0 X");
        for (int v = 1; v <= 6; v++) {
            range.value(1, v, true);
            due.is("2 < " + v + " < 5", range.shown(0, 0), v == 3 || v == 4 ? 'X' : 32);
        }
        MenuScreens many = new MenuScreens(1, 1);
        Due.type(many, "setting s 0 1 1\nsetting t 0 1 1\nscreen a\nif t = 1\n" + "if s = 1\n".repeat(200) + "put 0 0 X");
        due.is("201 ifs", many.read(), 1);
        due.is("all hold", many.shown(0, 0), 'X');
        many.setting(2, 0);
        due.is("the first one does not", many.shown(0, 0), 32);
    }

    private static void screensAboveTheirBar() {
        due.about("above speed v (0 .. 999) this screen shows nothing (but a WARNING)");
        for (int bar : new int[] {0, 1, 50, 998}) {
            MenuScreens x = due.reading(2, 4, "screen a", "put 0 0 ABCD", "put 1 0 EFGH", "bar " + bar);
            due.is("at " + bar, x.speed(bar), 0);
            due.is("shown at " + bar, whole(x, 2), "ABCD/EFGH");
            due.is("above " + bar, x.speed(bar + 1), 1);
            due.is("shown above " + bar, whole(x, 2), "    /    ");
            x.warn(42, 0);
            due.is("but a WARNING", whole(x, 2), "    /!42 ");
            x.speed(bar);
            due.is("at " + bar + " again", whole(x, 2), "ABCD/!42H");
        }
        MenuScreens never = due.reading(1, 1, "screen a", "put 0 0 A", "bar 999");
        due.is("bar 999 at 999", never.speed(999), 0);
        due.is("bar 999 shown at 999", never.shown(0, 0), 'A');
        MenuScreens none = due.reading(1, 1, "screen a", "put 0 0 A");
        due.is("no bar at 999", none.speed(999), 0);
        due.is("no bar shown at 999", none.shown(0, 0), 'A');
    }

    private static void keysAboveTheBar() {
        due.about("and its keys but 9 do nothing");
        for (int key = 1; key <= 9; key++) {
            MenuScreens x = due.reading(1, 1, "screen a", "bar 30", "key " + key + " b", "screen b", "key 1 a");
            x.speed(31);
            due.is("key " + key + " above the bar", x.press(key), key == 9 ? 2 : 1);
            MenuScreens slow = due.reading(1, 1, "screen a", "bar 30", "key " + key + " b", "screen b", "key 1 a");
            slow.speed(30);
            due.is("key " + key + " at the bar", slow.press(key), 2);
        }
        MenuScreens x = due.reading(1, 1, "screen a", "key 1 b", "screen b", "bar 30", "key 1 a", "key 9 c", "screen c", "bar 30", "key 1 a");
        x.speed(31);
        due.is("HOME has no bar", x.press(1), 2);
        due.is("the second one has", x.press(1), 2);
        due.is("9 leads on", x.press(9), 3);
        due.is("9 without a line", x.press(9), 3);
        due.is("0 is still none", x.press(0), -2);
        x.speed(30);
        due.is("slow again", x.press(1), 1);
    }

    private static void severalBars() {
        due.about("(of several bar lines of a screen the last one counts)");
        MenuScreens lower = due.reading(1, 1, "screen a", "bar 999", "bar 60", "put 0 0 A", "bar 30");
        due.is("30", lower.speed(30), 0);
        due.is("31", lower.speed(31), 1);
        MenuScreens higher = due.reading(1, 1, "screen a", "bar 0", "bar 30", "bar 60");
        due.is("60", higher.speed(60), 0);
        due.is("61", higher.speed(61), 1);
        MenuScreens other = due.reading(1, 1, "screen a", "bar 60", "screen b", "key 1 a", "bar 30");
        due.is("another screen's bar does not count", other.speed(60), 0);
    }

    private static void warningsInTheLastRow() {
        due.about("In the last row, if there are WARNINGS, from column 0 on");
        String[] shownDue = {"", "!", "!4", "!42", "!42D", "!42DE"};
        for (int columns = 1; columns <= 5; columns++) {
            for (int rows = 1; rows <= 3; rows++) {
                MenuScreens x = due.reading(rows, columns, "screen a", "put " + (rows - 1) + " 0 ABCDEF");
                due.is("no WARNING", Due.row(x, rows - 1), "ABCDEF".substring(0, columns));
                x.warn(42, 5);
                due.is("a WARNING", Due.row(x, rows - 1), shownDue[columns]);
                due.is("the row before", rows == 1 ? "" : Due.row(x, rows - 2), rows == 1 ? "" : " ".repeat(columns));
            }
        }
        MenuScreens none = new MenuScreens(2, 4);
        none.warn(42, 0);
        due.is("without a screen", whole(none, 2), "    /!42 ");
        none.warn(41, 30);
        due.is("accepted", none.accept(1), 1);
        due.is("the one that is left", whole(none, 2), "    /!41 ");
        none.warn(40, 60);
        none.accept(2);
        due.is("the last one", whole(none, 2), "    /!40 ");
    }

    private static void digitsOfTheRank() {
        due.about("! and the two digits of the RANK of the one at hand, over all else.");
        int[] ranks = {0, 1, 9, 10, 11, 50, 90, 98, 99};
        MenuScreens rising = due.reading(1, 3, "screen a", "put 0 0 XYZ");
        for (int rank : ranks) {
            MenuScreens x = new MenuScreens(1, 3);
            x.warn(rank, 0);
            String want = "!" + rank / 10 + rank % 10;
            due.is("RANK " + rank, Due.row(x, 0), want);
            rising.warn(rank, rank);
            due.is("RANK " + rank + " is the greatest", Due.row(rising, 0), want);
        }
        rising.warn(0, 99);
        rising.warn(98, 129);
        due.is("99 is still the greatest", Due.row(rising, 0), "!99");
        due.is("99 accepted", rising.accept(9), 10);
        due.is("98 is then", Due.row(rising, 0), "!98");
        due.is("one 98 accepted", rising.accept(8), 9);
        due.is("the other 98", Due.row(rising, 0), "!98");
    }

    private static void signsThatAreNone() {
        due.about("The sign at a row and column. -2 there is none.");
        int[][] sizes = {{1, 1}, {2, 5}, {40, 40}};
        for (int[] size : sizes) {
            MenuScreens x = due.reading(size[0], size[1], "screen a", "put 0 0 A");
            x.warn(5, 0);
            due.is("first", x.shown(0, 0), size[0] == 1 ? '!' : 'A');
            due.is("last", x.shown(size[0] - 1, size[1] - 1), size[1] == 1 ? '!' : 32);
            due.is("row -1", x.shown(-1, 0), -2);
            due.is("row beyond", x.shown(size[0], 0), -2);
            due.is("column -1", x.shown(0, -1), -2);
            due.is("column beyond", x.shown(0, size[1]), -2);
            due.is("column -1 of the last row", x.shown(size[0] - 1, -1), -2);
            due.is("column beyond of the last row", x.shown(size[0] - 1, size[1]), -2);
            due.is("both beyond", x.shown(size[0], size[1]), -2);
            due.is("both least", x.shown(Integer.MIN_VALUE, Integer.MIN_VALUE), -2);
            due.is("both greatest", x.shown(Integer.MAX_VALUE, Integer.MAX_VALUE), -2);
        }
    }

    private static void valueRange() {
        due.about("-2 v is below -999999 or above 999999");
        MenuScreens x = due.reading(1, 7, "name v", "screen a", "show 0 0 7 v");
        due.is("least", x.value(1, -999999, true), 1);
        due.is("one below", x.value(1, -1000000, true), -2);
        due.is("least shown", Due.row(x, 0), "-999999");
        due.is("greatest", x.value(1, 999999, true), 1);
        due.is("one above", x.value(1, 1000000, true), -2);
        due.is("one above, not valid", x.value(1, 1000000, false), -2);
        due.is("greatest shown", Due.row(x, 0), " 999999");
        long[] outside = {Long.MIN_VALUE, Long.MAX_VALUE, Integer.MIN_VALUE, Integer.MAX_VALUE, 1L << 32, (1L << 32) + 5, -(1L << 32), Long.MIN_VALUE + 5};
        for (long v : outside) {
            due.is("value " + v, x.value(1, v, true), -2);
        }
        due.is("still", Due.row(x, 0), " 999999");
        due.is("not valid is one, too", x.value(1, -999999, false), 1);
    }

    private static void valueNumbers() {
        due.about("A value becomes v, valid or not: 1. -1 there is none");
        MenuScreens x = due.reading(1, 4, "name v", "name w", "screen a", "show 0 0 2 v", "show 0 2 2 w");
        for (int name : new int[] {0, 3, -1, 40, 41, 257, Integer.MIN_VALUE, Integer.MAX_VALUE}) {
            due.is("name " + name, x.value(name, 5, true), -1);
        }
        due.is("none changed", Due.row(x, 0), "----");
        due.is("the first", x.value(1, 5, true), 1);
        due.is("the first shown", Due.row(x, 0), " 5--");
        due.is("the last", x.value(2, -6, true), 1);
        due.is("the last shown", Due.row(x, 0), " 5-6");
        due.is("not valid", x.value(1, 5, false), 1);
        due.is("not valid shown", Due.row(x, 0), "---6");
        due.is("no text", new MenuScreens(1, 1).value(1, 0, true), -1);
    }

    private static void valuesThatAreSettings() {
        due.about("-3 it is a setting.");
        MenuScreens x = due.reading(1, 2, "setting s 0 9 4", "screen a", "show 0 0 1 s");
        due.is("another", x.value(1, 5, true), -3);
        due.is("the same", x.value(1, 4, true), -3);
        due.is("not valid", x.value(1, 5, false), -3);
        due.is("out of its bounds", x.value(1, 10, true), -3);
        due.is("at the range", x.value(1, 999999, true), -3);
        due.is("out of the range", x.value(1, 1000000, true), -2);
        due.is("unchanged", Due.row(x, 0), "4 ");
    }

    private static void keys() {
        due.about("A key: the screen at hand then. -2 it is not 1 .. 9");
        MenuScreens x = due.reading(1, 1, "screen a", "key 1 b", "key 9 c", "screen b", "key 9 a", "screen c", "key 1 a", "key 2 c");
        for (int key : new int[] {0, 10, -1, -9, 257, Integer.MIN_VALUE, Integer.MAX_VALUE}) {
            due.is("key " + key, x.press(key), -2);
        }
        due.is("a key without a line", x.press(2), 1);
        due.is("key 1", x.press(1), 2);
        due.is("not 0 on the second screen", x.press(0), -2);
        due.is("key 1 without a line", x.press(1), 2);
        due.is("key 9", x.press(9), 1);
        due.is("key 9 of HOME", x.press(9), 3);
        due.is("a key to itself", x.press(2), 3);
        due.is("home", x.press(1), 1);
    }

    private static void keysWithoutAScreen() {
        due.about("-3 there is no screen.");
        MenuScreens[] without = {new MenuScreens(1, 1), due.reading(1, 1, "name v"), new MenuScreens(1, 1)};
        Due.read(without[2], "screen a", "key 1 a", "x");
        for (MenuScreens x : without) {
            due.is("key 1", x.press(1), -3);
            due.is("key 9", x.press(9), -3);
            due.is("key 0", x.press(0), -2);
            due.is("key 10", x.press(10), -2);
        }
    }

    private static void speeds() {
        due.about("The speed: 1 if the screen at hand is barred by it, 0 if not. -2 it is not 0 .. 999.");
        MenuScreens x = due.reading(1, 1, "screen a", "bar 0", "put 0 0 A", "key 9 b", "screen b", "bar 998", "put 0 0 B", "key 9 a");
        due.is("0", x.speed(0), 0);
        for (long v : new long[] {-1, 1000, Long.MIN_VALUE, Long.MAX_VALUE, (1L << 32) + 1, -(1L << 32) + 1}) {
            due.is("speed " + v, x.speed(v), -2);
            due.is("still not barred", x.shown(0, 0), 'A');
        }
        due.is("1", x.speed(1), 1);
        due.is("refused", x.speed(-1), -2);
        due.is("still barred", x.shown(0, 0), 32);
        x.press(9);
        due.is("998 on the second screen", x.speed(998), 0);
        due.is("999 on the second screen", x.speed(999), 1);
        due.is("1000", x.speed(1000), -2);
        due.is("still barred", x.shown(0, 0), 32);
        due.is("0 again", x.speed(0), 0);
        due.is("shown again", x.shown(0, 0), 'B');
    }

    private static void speedsWithoutAScreen() {
        due.about("1 if the screen at hand is barred by it, 0 if not.");
        MenuScreens x = new MenuScreens(1, 1);
        due.is("999 without a screen", x.speed(999), 0);
        due.is("1000 without a screen", x.speed(1000), -2);
        Due.read(x, "screen a", "bar 998", "put 0 0 A");
        due.is("the speed from before bars the screen", x.shown(0, 0), 32);
        due.is("at the bar", x.speed(998), 0);
    }

    private static void languages() {
        due.about("The language, 0 or 1: what it was. -2 another one.");
        MenuScreens x = due.reading(1, 1, "screen a", "say 0 0 A B");
        int[] others = {-1, 2, 256, Integer.MIN_VALUE, Integer.MAX_VALUE};
        for (int l : others) {
            due.is("language " + l, x.language(l), -2);
            due.is("still 0", x.shown(0, 0), 'A');
        }
        due.is("0 at first", x.language(1), 0);
        for (int l : others) {
            due.is("language " + l, x.language(l), -2);
            due.is("still 1", x.shown(0, 0), 'B');
        }
        due.is("1 again", x.language(1), 1);
        due.is("back to 0", x.language(0), 1);
        due.is("0 again", x.language(0), 0);
    }

    private static void settingBounds() {
        due.about("A setting becomes v: 1; 0 if it is out of its bounds.");
        int[][] all = {{-2, 3}, {0, 0}, {5, 5}, {-999999, 999999}, {999999, 999999}, {-999999, -999999}};
        for (int[] bounds : all) {
            MenuScreens x = due.reading(1, 7, "setting s " + bounds[0] + " " + bounds[1] + " " + bounds[0], "screen a", "show 0 0 7 s");
            String low = String.format("%7d", bounds[0]);
            String high = String.format("%7d", bounds[1]);
            due.is("low", x.setting(1, bounds[0]), 1);
            due.is("one below", x.setting(1, bounds[0] - 1L), 0);
            due.is("least", x.setting(1, Long.MIN_VALUE), 0);
            due.is("low + 2^32", x.setting(1, bounds[0] + (1L << 32)), 0);
            due.is("low shown", Due.row(x, 0), low);
            due.is("high", x.setting(1, bounds[1]), 1);
            due.is("one above", x.setting(1, bounds[1] + 1L), 0);
            due.is("greatest", x.setting(1, Long.MAX_VALUE), 0);
            due.is("high - 2^32", x.setting(1, bounds[1] - (1L << 32)), 0);
            due.is("high shown", Due.row(x, 0), high);
        }
    }

    private static void settingNumbers() {
        due.about("-1 there is no value, -3 it is no setting.");
        MenuScreens x = due.reading(1, 2, "name v", "setting s 0 9 4", "screen a", "show 0 0 1 v", "show 0 1 1 s");
        for (int name : new int[] {0, 3, -1, 40, 41, 258, Integer.MIN_VALUE, Integer.MAX_VALUE}) {
            due.is("name " + name, x.setting(name, 5), -1);
            due.is("name " + name + " and out of all bounds", x.setting(name, Long.MAX_VALUE), -1);
        }
        due.is("a value", x.setting(1, 5), -3);
        due.is("a value, far", x.setting(1, Long.MIN_VALUE), -3);
        due.is("unchanged", Due.row(x, 0), "-4");
        due.is("the setting", x.setting(2, 9), 1);
        due.is("no text", new MenuScreens(1, 1).setting(1, 0), -1);
    }
}
