/** Counts the answers that are not the ones that are due, and helps to type texts and read rows. */
final class Due {
    private int asked;
    private int wrong;

    void is(String call, long got, long want) {
        asked++;
        if (got != want) {
            wrong++;
            System.out.println(call + " answered " + got + ", due is " + want);
        }
    }

    void is(String call, String got, String want) {
        asked++;
        if (!got.equals(want)) {
            wrong++;
            System.out.println(call + " answered [" + got + "], due is [" + want + "]");
        }
    }

    /** Says how it went, and ends the program with 1 if something was wrong. */
    void end() {
        System.out.println(asked + " answers asked for, " + wrong + " not as due");
        if (wrong != 0 || asked == 0) {
            System.exit(1);
        }
    }

    static void type(MenuScreens x, String text) {
        for (int i = 0; i < text.length(); i += 4) {
            int c = 0;
            for (int k = i; k < i + 4; k++) {
                c = c << 8 | (k < text.length() ? text.charAt(k) : 0);
            }
            x.sign(c);
        }
    }

    static String lines(String... lines) {
        return String.join("\n", lines) + "\n";
    }

    static int read(MenuScreens x, String... lines) {
        type(x, lines(lines));
        return x.read();
    }

    static String row(MenuScreens x, int row) {
        StringBuilder signs = new StringBuilder();
        int sign = x.shown(row, 0);
        for (int column = 0; sign > 0 && column < 40; ) {
            signs.append((char) sign);
            column++;
            sign = x.shown(row, column);
        }
        return signs.toString();
    }
}
