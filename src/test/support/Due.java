/** Counts the answers that are not the ones that are due, and helps to type texts and read rows. */
final class Due {
    private int asked;
    private int wrong;
    private String sentence = "";

    /** Tells the sentence of the document that the next answers are asked for. */
    void about(String sentence) {
        this.sentence = "\"" + sentence + "\" ";
    }

    void is(String call, long got, long want) {
        asked++;
        if (got != want) {
            wrong++;
            System.out.println(sentence + call + " answered " + got + ", due is " + want);
        }
    }

    void is(String call, String got, String want) {
        asked++;
        if (!got.equals(want)) {
            wrong++;
            System.out.println(sentence + call + " answered [" + got + "], due is [" + want + "]");
        }
    }

    /** What read() answers to these lines on a new object. */
    void reads(int want, String... lines) {
        is("read() of " + String.join("/", lines), read(new MenuScreens(4, 16), lines), want);
    }

    /** A new object that has read these lines, which must be right ones. */
    MenuScreens reading(int rows, int columns, String... lines) {
        MenuScreens x = new MenuScreens(rows, columns);
        int screens = read(x, lines);
        is("read() is right for " + String.join("/", lines), screens >= 0 ? 1 : screens, 1);
        return x;
    }

    /** Says how it went, and ends the program with 1 if something was wrong. */
    void end() {
        System.out.println(asked + " answers asked for, " + wrong + " not as due");
        if (wrong != 0 || asked == 0) {
            System.exit(1);
        }
    }

    static void type(MenuScreens x, String text) {
        for (int i = 0; i < text.length(); i += 4) {
            int c = 0;
            for (int k = i; k < i + 4; k++) {
                c = c << 8 | (k < text.length() ? text.charAt(k) : 0);
            }
            x.sign(c);
        }
    }

    static String lines(String... lines) {
        return String.join("\n", lines) + "\n";
    }

    static int read(MenuScreens x, String... lines) {
        type(x, lines(lines));
        return x.read();
    }

    static String row(MenuScreens x, int row) {
        StringBuilder signs = new StringBuilder();
        int sign = x.shown(row, 0);
        for (int column = 0; sign > 0 && column < 40; ) {
            signs.append((char) sign);
            column++;
            sign = x.shown(row, column);
        }
        return signs.toString();
    }

    /** The i-th of many names, each of two letters. */
    static String name(int i) {
        return "" + (char) ('a' + i / 26) + (char) ('a' + i % 26);
    }
}
