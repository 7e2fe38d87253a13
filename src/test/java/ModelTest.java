import java.math.BigInteger;
import java.util.ArrayList;
import java.util.Arrays;
import java.util.Comparator;
import java.util.List;
import java.util.Random;

/**
 * Runs of calls, with ordinary and with wild arguments, against a second and plainer writing of the
 * document: it draws whole grids, sorts lists and follows every way. The seeds are fixed.
 */
public final class ModelTest {
    private static final int RUNS = 4000;
    private static final int CALLS = 512;
    private static final Due due = new Due();

    public static void main(String[] args) {
        for (int run = 0; run < RUNS; run++) {
            new Run(run).go();
        }
        due.end();
    }

    private static final class Run {
        final Random random;
        final int run;
        final int rows;
        final int columns;
        final MenuScreens x;
        final Model model;
        int calls;

        Run(int run) {
            this.run = run;
            random = new Random(run);
            rows = random.nextInt(5) == 0 ? random.nextInt(45) - 2 : 1 + random.nextInt(4);
            columns = random.nextInt(5) == 0 ? random.nextInt(45) - 2 : 1 + random.nextInt(10);
            x = new MenuScreens(rows, columns);
            model = new Model(rows, columns);
        }

        void go() {
            while (calls < CALLS) {
                int kind = random.nextInt(30);
                if (kind == 0 || calls == 0) {
                    typeAndRead();
                } else {
                    call(kind);
                }
            }
        }

        void is(String call, long got, long want) {
            calls++;
            // What later calls answer is free.
            if (calls <= CALLS) {
                due.is("run " + run + " (" + rows + ", " + columns + ") call " + calls + ": " + call, got, want);
            }
        }

        void typeAndRead() {
            String text = new Writer(random).text();
            for (int i = 0; i < text.length(); i += 4) {
                int c = 0;
                for (int k = i; k < i + 4; k++) {
                    c = c << 8 | (k < text.length() ? text.charAt(k) : random.nextInt(4) == 0 ? 200 : 0);
                }
                x.sign(c);
                model.sign(c);
                calls++;
            }
            is("read() of " + text.replace('\n', '/'), x.read(), model.read());
            for (int i = -1; i < 4; i++) {
                is("ring(" + i + ")", x.ring(i), model.ring(i));
            }
        }

        void call(int kind) {
            int n = random.nextInt(20) == 0 ? wild() : random.nextInt(6);
            long v = random.nextInt(20) == 0 ? wild() * 65537L : random.nextInt(40) - 12;
            boolean yes = random.nextInt(4) != 0;
            switch (kind) {
                case 1, 2, 3 -> is("value(" + n + ", " + v + ", " + yes + ")", x.value(n, v, yes), model.value(n, v, yes));
                case 4, 5, 6 -> is("press(" + n + ")", x.press(n), model.press(n));
                case 7 -> is("press(9)", x.press(9), model.press(9));
                case 8 -> {
                    int rank = random.nextInt(9) == 0 ? wild() : random.nextInt(3) * 11;
                    long t = random.nextInt(9) == 0 ? model.last - 1 : model.last + random.nextInt(25);
                    is("warn(" + rank + ", " + t + ")", x.warn(rank, t), model.warn(rank, t));
                }
                case 9 -> is("warning(" + n + ")", x.warning(n), model.warning(n));
                case 10, 11 -> {
                    int w = random.nextInt(9) == 0 ? wild() : random.nextInt(model.warnings.size() + 2);
                    is("accept(" + w + ")", x.accept(w), model.accept(w));
                }
                case 12 -> {
                    long cents = random.nextInt(9) == 0 ? wild() : random.nextInt(1000);
                    is("trip(" + v + ", " + cents + ")", x.trip(v, cents), model.trip(v, cents));
                }
                case 13 -> is("sum(" + (n - 1) + ", " + (v & 1) + ")", x.sum(n - 1, (int) v & 1), model.sum(n - 1, (int) v & 1));
                case 14, 15 -> is("speed(" + v + ")", x.speed(v), model.speed(v));
                case 16 -> is("language(" + (n - 1) + ")", x.language(n - 1), model.language(n - 1));
                case 17, 18 -> is("setting(" + n + ", " + v + ")", x.setting(n, v), model.setting(n, v));
                case 19 -> is("lamp(" + n * 3 + ", " + yes + ")", x.lamp(n * 3, yes), model.lamp(n * 3, yes));
                default -> look();
            }
        }

        void look() {
            int row = random.nextInt(20) == 0 ? wild() : random.nextInt(model.rows);
            for (int column = -1; column <= Math.min(model.columns, 12); column++) {
                is("shown(" + row + ", " + column + ")", x.shown(row, column), model.shown(row, column));
            }
        }

        int wild() {
            int[] all = {Integer.MIN_VALUE, Integer.MAX_VALUE, -1, 0, 16, 40, 41, 99, 100, 200, 999, 1000, 1000000000, 1000000001};
            return all[random.nextInt(all.length)];
        }
    }

    /** Writes texts that are mostly right. */
    private static final class Writer {
        final Random random;
        final StringBuilder text = new StringBuilder();
        final List<String> screens = new ArrayList<>();

        Writer(Random random) {
            this.random = random;
        }

        String text() {
            int values = random.nextInt(4);
            for (int i = 0; i < values; i++) {
                line(random.nextBoolean() ? "name " + valueName(i) : "setting " + valueName(i) + " -5 " + random.nextInt(30) + " 0");
            }
            int count = random.nextInt(5);
            for (int i = 0; i < count; i++) {
                screens.add("" + (char) ('p' + i));
            }
            for (int i = 0; i < count; i++) {
                line("screen " + screens.get(i));
                int lines = random.nextInt(7);
                for (int k = 0; k < lines; k++) {
                    line(part(values));
                }
                if (random.nextInt(9) != 0) {
                    line("key 9 " + screens.get(random.nextInt(i + 1)));
                }
            }
            return text.toString();
        }

        String valueName(int i) {
            return random.nextInt(60) == 0 ? "a" : "" + (char) ('a' + i);
        }

        String part(int values) {
            String place = " " + (random.nextInt(80) - 1) / 10 % 4 + " " + random.nextInt(9) + " ";
            String value = random.nextInt(80) == 0 || values == 0 ? "zz" : "" + (char) ('a' + random.nextInt(values));
            switch (random.nextInt(values == 0 ? 5 : 10)) {
                case 0:
                    return "key " + (1 + random.nextInt(8)) + " " + screens.get(random.nextInt(screens.size()));
                case 1:
                    return "bar " + random.nextInt(30);
                case 2:
                    return "say" + place + "ONE " + (random.nextBoolean() ? "-" : "ZWEI");
                case 3, 4:
                    return "put" + place + (random.nextBoolean() ? "PQRST" : "*");
                case 5, 6:
                    return "show" + place + (1 + random.nextInt(4)) + " " + value;
                default:
                    return "if " + value + " " + "=<>".charAt(random.nextInt(3)) + " " + (random.nextInt(20) - 8);
            }
        }

        void line(String line) {
            String written = line;
            if (random.nextInt(150) == 0) {
                int at = random.nextInt(line.length());
                written = line.substring(0, at) + "-x 0\t".charAt(random.nextInt(5)) + line.substring(at);
            }
            if (random.nextInt(20) == 0) {
                written = " " + written.replace(" ", "  ") + " \n";
            }
            text.append(written).append('\n');
        }
    }

    private static final class Model {
        int rows;
        int columns;
        String text = "";
        List<Object[]> values = new ArrayList<>();
        List<String> screens = new ArrayList<>();
        List<Integer> screenLines = new ArrayList<>();
        List<List<String[]>> lines = new ArrayList<>();
        List<Integer> rings = new ArrayList<>();
        List<long[]> warnings = new ArrayList<>();
        boolean[] broken = new boolean[16];
        int hand;
        long speed;
        int language;
        long last;
        long metres;
        long cents;
        int trips;

        Model(int rows, int columns) {
            boolean right = rows > 0 && columns > 0 && rows < 41 && columns < 41;
            this.rows = right ? rows : 4;
            this.columns = right ? columns : 16;
        }

        void sign(int c) {
            for (int shift : new int[] {24, 16, 8, 0}) {
                byte one = (byte) (c >> shift);
                text += one > 0 && text.length() < 4000 ? "" + (char) one : "";
            }
        }

        int read() {
            values.clear();
            screens.clear();
            screenLines.clear();
            lines.clear();
            rings.clear();
            hand = 0;
            String[] all = text.split("\n", -1);
            text = "";
            int wrong = 0;
            for (int i = 0; i < all.length && wrong == 0; i++) {
                String trimmed = all[i].replaceAll("^ +| +$", "");
                if (!trimmed.isEmpty() && !take(trimmed.split(" +"), i + 1)) {
                    wrong = i + 1;
                }
            }
            if (wrong == 0) {
                wrong = wrongAtTheEnd();
            }
            if (wrong != 0) {
                values.clear();
                screens.clear();
                return -1 - wrong;
            }
            return screens.size();
        }

        boolean take(String[] w, int line) {
            String whole = String.join(" ", w);
            String name = "[a-z]{1,8}";
            String number = "-?[0-9]{1,6}";
            if (whole.matches("name " + name)) {
                return addValue(w[1], null);
            }
            if (whole.matches("setting " + name + " " + number + " " + number + " " + number)) {
                long[] bounds = {Long.parseLong(w[2]), Long.parseLong(w[3]), Long.parseLong(w[4])};
                return bounds[0] <= bounds[2] && bounds[2] <= bounds[1] && addValue(w[1], bounds);
            }
            if (whole.matches("screen " + name)) {
                if (screens.contains(w[1]) || screens.size() == 30) {
                    return false;
                }
                screens.add(w[1]);
                screenLines.add(line);
                lines.add(new ArrayList<>());
                return true;
            }
            String place = " " + number + " " + number + " ";
            boolean right = whole.matches("put" + place + "[^ ]+") && isPlace(w)
                    || whole.matches("say" + place + "[^ ]+ [^ ]+") && isPlace(w)
                    || whole.matches("show" + place + number + " " + name) && isPlace(w)
                            && isWithin(w[3], 1, 9) && valueNamed(w[4]) != null
                    || whole.matches("if " + name + " [=<>] " + number) && valueNamed(w[1]) != null
                    || whole.matches("key " + number + " " + name) && isWithin(w[1], 1, 9)
                    || whole.matches("bar " + number) && isWithin(w[1], 0, 999);
            if (!right || screens.isEmpty()) {
                return false;
            }
            List<String[]> own = lines.get(lines.size() - 1);
            if (w[0].equals("key")) {
                for (String[] before : own) {
                    if (before[0].equals("key") && Integer.parseInt(before[1]) == Integer.parseInt(w[1])) {
                        return false;
                    }
                }
            }
            own.add(w);
            return true;
        }

        boolean isPlace(String[] w) {
            return isWithin(w[1], 0, 999999) && isWithin(w[2], 0, 999999);
        }

        boolean isWithin(String number, int low, int high) {
            return Integer.parseInt(number) >= low && Integer.parseInt(number) <= high;
        }

        /** A value is a row of its name, its bounds or null, what it is, and whether it is valid. */
        boolean addValue(String name, long[] bounds) {
            if (valueNamed(name) != null || values.size() == 40) {
                return false;
            }
            values.add(new Object[] {name, bounds, bounds == null ? 0L : bounds[2], bounds != null});
            return true;
        }

        Object[] valueNamed(String name) {
            return values.stream().filter(v -> v[0].equals(name)).findFirst().orElse(null);
        }

        int wrongAtTheEnd() {
            int wrong = 0;
            for (int i = 0; i < screens.size(); i++) {
                boolean home = waysFrom(i, new boolean[screens.size()]);
                if (!home) {
                    rings.add(i + 1);
                }
                boolean nowhere = lines.get(i).stream().anyMatch(w -> w[0].equals("key") && !screens.contains(w[2]));
                if (wrong == 0 && (nowhere || !home)) {
                    wrong = screenLines.get(i);
                }
            }
            hand = wrong == 0 && !screens.isEmpty() ? 1 : 0;
            return wrong;
        }

        boolean waysFrom(int i, boolean[] been) {
            if (i <= 0 || been[i]) {
                return i == 0;
            }
            been[i] = true;
            return lines.get(i).stream().anyMatch(w -> w[0].equals("key") && waysFrom(screens.indexOf(w[2]), been));
        }

        int value(int name, long v, boolean valid) {
            if (name < 1 || name > values.size()) {
                return -1;
            }
            if (v < -999999 || v > 999999) {
                return -2;
            }
            Object[] it = values.get(name - 1);
            if (it[1] != null) {
                return -3;
            }
            it[2] = v;
            it[3] = valid;
            return 1;
        }

        int setting(int name, long v) {
            if (name < 1 || name > values.size()) {
                return -1;
            }
            Object[] it = values.get(name - 1);
            if (it[1] == null) {
                return -3;
            }
            long[] bounds = (long[]) it[1];
            if (v < bounds[0] || v > bounds[1]) {
                return 0;
            }
            it[2] = v;
            return 1;
        }

        boolean barred() {
            long bar = 999;
            for (String[] w : hand == 0 ? new ArrayList<String[]>() : lines.get(hand - 1)) {
                bar = w[0].equals("bar") ? Long.parseLong(w[1]) : bar;
            }
            return speed > bar;
        }

        int press(int key) {
            if (key < 1 || key > 9) {
                return -2;
            }
            if (hand == 0) {
                return -3;
            }
            if (barred() && key != 9) {
                return hand;
            }
            for (String[] w : lines.get(hand - 1)) {
                if (w[0].equals("key") && Integer.parseInt(w[1]) == key) {
                    return hand = screens.indexOf(w[2]) + 1;
                }
            }
            return hand;
        }

        int shown(int row, int column) {
            if (row < 0 || column < 0 || row >= rows || column >= columns) {
                return -2;
            }
            char[][] grid = new char[rows][columns];
            for (char[] one : grid) {
                Arrays.fill(one, ' ');
            }
            if (hand != 0 && !barred()) {
                drawLines(grid);
            }
            List<long[]> open = open();
            if (!open.isEmpty()) {
                long rank = open.get(0)[0];
                int n = (int) open.stream().filter(w -> w[0] == rank).count();
                draw(grid, rows - 1, 0, String.format("!%02d", open.get((int) (last / 10 % n))[0]));
            }
            return grid[row][column];
        }

        void drawLines(char[][] grid) {
            boolean on = true;
            for (String[] w : lines.get(hand - 1)) {
                if (w[0].equals("if")) {
                    on &= holds(w);
                }
                if (w[0].equals("put") || w[0].equals("say") || w[0].equals("show")) {
                    if (on) {
                        draw(grid, Integer.parseInt(w[1]), Integer.parseInt(w[2]), textOf(w));
                    }
                    on = true;
                }
            }
        }

        boolean holds(String[] w) {
            Object[] it = valueNamed(w[1]);
            int order = Long.compare((Long) it[2], Long.parseLong(w[3]));
            return (Boolean) it[3] && order == "<=>".indexOf(w[2]) - 1;
        }

        String textOf(String[] w) {
            if (!w[0].equals("show")) {
                return w[0].equals("say") && language == 1 && !w[4].equals("-") ? w[4] : w[3];
            }
            Object[] it = valueNamed(w[4]);
            int n = Integer.parseInt(w[3]);
            String digits = String.format("%" + n + "d", (Long) it[2]);
            if (!(Boolean) it[3]) {
                return "-".repeat(n);
            }
            return digits.length() > n ? "#".repeat(n) : digits;
        }

        void draw(char[][] grid, int row, int column, String signs) {
            for (int i = 0; i < signs.length() && row < rows && column + i < columns; i++) {
                grid[row][column + i] = signs.charAt(i);
            }
        }

        /** A warning is a row of its rank, its time, its number, and 1 if it was accepted. */
        List<long[]> open() {
            List<long[]> open = new ArrayList<>(warnings);
            open.removeIf(w -> w[3] == 1);
            open.sort(Comparator.<long[]>comparingLong(w -> -w[0]).thenComparingLong(w -> w[1]).thenComparingLong(w -> w[2]));
            return open;
        }

        int warn(int rank, long t) {
            if (rank < 0 || rank > 99 || t < 0 || t < last) {
                return -2;
            }
            if (warnings.size() == 200) {
                return -4;
            }
            last = t;
            warnings.add(new long[] {rank, t, warnings.size() + 1, 0});
            return warnings.size();
        }

        int warning(int i) {
            List<long[]> open = open();
            return i < 0 || i >= open.size() ? 0 : (int) open.get(i)[2];
        }

        int accept(int w) {
            if (w < 1 || w > warnings.size() || warnings.get(w - 1)[3] == 1) {
                return -1;
            }
            if (last < warnings.get(w - 1)[1] + 30) {
                return -3;
            }
            warnings.get(w - 1)[3] = 1;
            return open().size();
        }

        int trip(long m, long c) {
            if (Math.min(m, c) < 0 || Math.max(m, c) > 1000000000) {
                return -2;
            }
            metres += m;
            cents += c;
            return ++trips;
        }

        long sum(int what, int side) {
            if (what < 0 || what > 2) {
                return -2;
            }
            if (what < 2) {
                return what == 0 ? metres : cents;
            }
            if (metres == 0) {
                return 0;
            }
            BigInteger above = BigInteger.valueOf(cents).multiply(BigInteger.valueOf(1000));
            BigInteger below = BigInteger.valueOf(metres);
            return (side == 0 ? above : below).divide(above.gcd(below)).longValueExact();
        }

        int speed(long v) {
            if (v < 0 || v > 999) {
                return -2;
            }
            speed = v;
            return barred() ? 1 : 0;
        }

        int language(int l) {
            if (l < 0 || l > 1) {
                return -2;
            }
            int before = language;
            language = l;
            return before;
        }

        int ring(int i) {
            return i < 0 || i >= rings.size() ? 0 : rings.get(i);
        }

        int lamp(int i, boolean works) {
            if (i < 0 || i > 15) {
                return -1;
            }
            broken[i] = !works;
            int count = 0;
            for (boolean b : broken) {
                count += b ? 1 : 0;
            }
            return count;
        }
    }
}
