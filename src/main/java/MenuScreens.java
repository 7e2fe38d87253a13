import java.util.ArrayList;

/**
 * Instruments and menus of a car: screens in a text with signs, words in two languages and values,
 * shown when conditions hold, keys that lead from one to the other, settings, warnings by rank and
 * time, sums of trips, lamps.
 */
public final class MenuScreens {
    private static final int UNKNOWN = -1;
    private static final int OUTSIDE = -2;
    private static final int NOT_NOW = -3;
    private static final int NO_ROOM = -4;

    private static final int LONGEST_SIDE = 40;
    private static final int USUAL_ROWS = 4;
    private static final int USUAL_COLUMNS = 16;
    private static final int MOST_SIGNS = 4000;
    private static final int MOST_VALUES = 40;
    private static final int MOST_SCREENS = 30;
    private static final int MOST_KEY = 9;
    private static final int FREE_KEY = 9;
    private static final int MOST_SHOWN_COLUMNS = 9;
    private static final int MOST_SPEED = 999;
    private static final int MOST_WARNINGS = 200;
    private static final int MOST_RANK = 99;
    private static final int ACCEPT_AFTER = 30;
    private static final int LAMPS = 16;
    private static final long MOST_OF_A_TRIP = 1000000000L;

    private static final int NAME_LENGTH = 8;
    private static final int NUMBER_LENGTH = 6;
    private static final int MOST_NUMBER = 999999;
    private static final int LEAST_NUMBER = -999999;
    // Both lie outside what a NAME or a NUMBER can be, so that they can stand for a missing one.
    private static final long NO_NAME = 0;
    private static final int NO_NUMBER = LEAST_NUMBER - 1;

    private static final char LINE_END = 10;
    private static final char SPACE = 32;
    // No sign of a text is 0.
    private static final int NO_SIGN = 0;

    private final int rows;
    private final int columns;
    private final StringBuilder text;
    private final Reader reader;
    private final Plan plan;
    private final Warnings warnings;
    private int atHand;
    private int speed;
    private int language;
    private int brokenLamps;
    private int trips;
    private long allMetres;
    private long allCents;

    public MenuScreens(int rows, int columns) {
        boolean fits = rows >= 1 && rows <= LONGEST_SIDE && columns >= 1 && columns <= LONGEST_SIDE;
        this.rows = fits ? rows : USUAL_ROWS;
        this.columns = fits ? columns : USUAL_COLUMNS;
        this.text = new StringBuilder();
        this.reader = new Reader();
        this.plan = this.reader.plan;
        this.warnings = new Warnings();
    }

    public void sign(int c) {
        for (int shift = 24; shift >= 0; shift -= 8) {
            int one = (c >>> shift) & 255;
            if (one >= 1 && one <= 127 && text.length() < MOST_SIGNS) {
                text.append((char) one);
            }
        }
    }

    public int read() {
        String signs = text.toString();
        text.setLength(0);
        plan.clear();
        int wrong = reader.firstWrongLine(signs);
        if (wrong == 0) {
            plan.joinKeys();
            plan.findRings();
            wrong = plan.firstWrongScreenLine();
        }
        if (wrong != 0) {
            plan.clearScreensAndValues();
        }
        int screens = plan.screens.size();
        atHand = screens > 0 ? 1 : 0;
        return wrong != 0 ? -1 - wrong : screens;
    }

    public int value(int name, long v, boolean valid) {
        Value chosen = plan.valueNumbered(name);
        if (chosen == null) {
            return UNKNOWN;
        }
        if (v < LEAST_NUMBER || v > MOST_NUMBER) {
            return OUTSIDE;
        }
        if (chosen.isSetting) {
            return NOT_NOW;
        }
        chosen.now = v;
        chosen.valid = valid;
        return 1;
    }

    public int press(int key) {
        if (key < 1 || key > MOST_KEY) {
            return OUTSIDE;
        }
        Screen screen = plan.screenNumbered(atHand);
        if (screen == null) {
            return NOT_NOW;
        }
        int next = screen.screenBehindKey(key);
        boolean works = key == FREE_KEY || !screen.isBarredAt(speed);
        if (next != 0 && works) {
            atHand = next;
        }
        return atHand;
    }

    public int shown(int row, int column) {
        if (row < 0 || row >= rows || column < 0 || column >= columns) {
            return OUTSIDE;
        }
        int warningSign = row == rows - 1 ? warnings.signAt(column) : NO_SIGN;
        if (warningSign != NO_SIGN) {
            return warningSign;
        }
        Screen screen = plan.screenNumbered(atHand);
        if (screen == null || screen.isBarredAt(speed)) {
            return SPACE;
        }
        return screen.signAt(row, column, language);
    }

    public int warn(int rank, long t) {
        return warnings.add(rank, t);
    }

    public int warning(int i) {
        return warnings.openAt(i);
    }

    public int accept(int warning) {
        return warnings.close(warning);
    }

    public int trip(long metres, long cents) {
        if (metres < 0 || metres > MOST_OF_A_TRIP || cents < 0 || cents > MOST_OF_A_TRIP) {
            return OUTSIDE;
        }
        allMetres += metres;
        allCents += cents;
        trips++;
        return trips;
    }

    public long sum(int what, int side) {
        if (what == 0) {
            return allMetres;
        }
        if (what == 1) {
            return allCents;
        }
        if (what != 2) {
            return OUTSIDE;
        }
        long above = allCents * 1000;
        long divisor = greatestDivisor(above, allMetres);
        if (allMetres == 0 || divisor == 0) {
            return 0;
        }
        return (side == 0 ? above : allMetres) / divisor;
    }

    public int speed(long v) {
        if (v < 0 || v > MOST_SPEED) {
            return OUTSIDE;
        }
        speed = (int) v;
        Screen screen = plan.screenNumbered(atHand);
        return screen != null && screen.isBarredAt(speed) ? 1 : 0;
    }

    public int language(int l) {
        if (l != 0 && l != 1) {
            return OUTSIDE;
        }
        int before = language;
        language = l;
        return before;
    }

    public int ring(int i) {
        return plan.ringAt(i);
    }

    public int setting(int name, long v) {
        Value chosen = plan.valueNumbered(name);
        if (chosen == null) {
            return UNKNOWN;
        }
        if (!chosen.isSetting) {
            return NOT_NOW;
        }
        if (v < chosen.low || v > chosen.high) {
            return 0;
        }
        chosen.now = v;
        return 1;
    }

    public int lamp(int i, boolean works) {
        if (i < 0 || i >= LAMPS) {
            return UNKNOWN;
        }
        int bit = 1 << i;
        brokenLamps = works ? brokenLamps & ~bit : brokenLamps | bit;
        return Integer.bitCount(brokenLamps);
    }

    private static long greatestDivisor(long a, long b) {
        long greater = a;
        long smaller = b;
        // Two longs need fewer than a hundred steps.
        for (int step = 0; step < 100 && smaller != 0; step++) {
            long rest = greater % smaller;
            greater = smaller;
            smaller = rest;
        }
        return greater;
    }

    /** A value that a text names; a setting is one with bounds of its own. */
    private static final class Value {
        final long name;
        final boolean isSetting;
        final long low;
        final long high;
        long now;
        boolean valid;

        Value(long name) {
            this.name = name;
            this.isSetting = false;
            this.low = LEAST_NUMBER;
            this.high = MOST_NUMBER;
        }

        Value(long name, long low, long high, long first) {
            this.name = name;
            this.isSetting = true;
            this.low = low;
            this.high = high;
            this.now = first;
            this.valid = true;
        }
    }

    /** An if line, chained to the if lines before it that stand for the same piece. */
    private static final class Condition {
        final Value value;
        final char op;
        final int number;
        final Condition before;

        Condition(Value value, char op, int number, Condition before) {
            this.value = value;
            this.op = op;
            this.number = number;
            this.before = before;
        }

        boolean holds() {
            if (!value.valid) {
                return false;
            }
            if (op == '=') {
                return value.now == number;
            }
            return op == '<' ? value.now < number : value.now > number;
        }
    }

    /** A put, say or show line of a screen. */
    private abstract static class Piece {
        final int row;
        final int column;
        final Condition conditions;

        Piece(int row, int column, Condition conditions) {
            this.row = row;
            this.column = column;
            this.conditions = conditions;
        }

        /** The sign at a place from the piece's own column on, NO_SIGN if the piece is not there. */
        abstract int signAt(int place, int language);

        final boolean isOn() {
            for (Condition c = conditions; c != null; c = c.before) {
                if (!c.holds()) {
                    return false;
                }
            }
            return true;
        }
    }

    /** A put or say line; a put has the same word in both languages. */
    private static final class WordPiece extends Piece {
        private final String first;
        private final String second;

        WordPiece(int row, int column, Condition conditions, String first, String second) {
            super(row, column, conditions);
            this.first = first;
            this.second = second;
        }

        int signAt(int place, int language) {
            String word = language == 1 ? second : first;
            return place >= 0 && place < word.length() ? word.charAt(place) : NO_SIGN;
        }
    }

    /** A show line. */
    private static final class ValuePiece extends Piece {
        private final Value value;
        private final int width;

        ValuePiece(int row, int column, Condition conditions, Value value, int width) {
            super(row, column, conditions);
            this.value = value;
            this.width = width;
        }

        int signAt(int place, int language) {
            if (place < 0 || place >= width) {
                return NO_SIGN;
            }
            if (!value.valid) {
                return '-';
            }
            return signFromRight(width - 1 - place);
        }

        private int signFromRight(int place) {
            long size = Math.abs(value.now);
            int digits = digitsOf(size);
            int length = value.now < 0 ? digits + 1 : digits;
            if (length > width) {
                return '#';
            }
            if (place >= length) {
                return SPACE;
            }
            return place >= digits ? '-' : digitFromRight(size, place);
        }

        private static int digitsOf(long size) {
            int digits = 1;
            for (long rest = size / 10; rest > 0 && digits < 20; rest /= 10) {
                digits++;
            }
            return digits;
        }

        private static int digitFromRight(long size, int place) {
            long rest = size;
            for (int i = 0; i < place; i++) {
                rest /= 10;
            }
            return '0' + (int) (rest % 10);
        }
    }

    /** A screen: its pieces in the order of their lines, its keys and its bar. */
    private static final class Screen {
        final long name;
        final int line;
        final ArrayList<Piece> pieces = new ArrayList<>();
        final long[] keyNames = new long[MOST_KEY + 1];
        final int[] keyScreens = new int[MOST_KEY + 1];
        // No speed is above the greatest one, so a screen without a bar line is never barred.
        int bar = MOST_SPEED;
        boolean leadsHome;

        Screen(long name, int line) {
            this.name = name;
            this.line = line;
        }

        boolean isBarredAt(int speed) {
            return speed > bar;
        }

        int screenBehindKey(int key) {
            return key >= 1 && key <= MOST_KEY ? keyScreens[key] : 0;
        }

        int signAt(int row, int column, int language) {
            for (int i = pieces.size() - 1; i >= 0; i--) {
                Piece piece = pieces.get(i);
                int found = piece.row == row ? piece.signAt(column - piece.column, language) : NO_SIGN;
                if (found != NO_SIGN && piece.isOn()) {
                    return found;
                }
            }
            return SPACE;
        }

        boolean hasKeyToNowhere() {
            for (int key = 1; key <= MOST_KEY; key++) {
                if (keyNames[key] != NO_NAME && keyScreens[key] == 0) {
                    return true;
                }
            }
            return false;
        }
    }

    /** What the last text told: its values and screens, numbered from 1 on, and its rings. */
    private static final class Plan {
        final ArrayList<Value> values = new ArrayList<>();
        final ArrayList<Screen> screens = new ArrayList<>();
        private final int[] rings = new int[MOST_SCREENS];
        private int ringCount;

        void clear() {
            clearScreensAndValues();
            ringCount = 0;
        }

        // The rings stay: they are asked for after a read that they made fail.
        void clearScreensAndValues() {
            values.clear();
            screens.clear();
        }

        Value valueNumbered(int number) {
            return number >= 1 && number <= values.size() ? values.get(number - 1) : null;
        }

        Value valueNamed(long name) {
            for (int i = 0; i < values.size(); i++) {
                Value value = values.get(i);
                if (value.name == name) {
                    return value;
                }
            }
            return null;
        }

        Screen screenNumbered(int number) {
            return number >= 1 && number <= screens.size() ? screens.get(number - 1) : null;
        }

        /** The number of the screen with this name, 0 if there is none. */
        int screenNumberOf(long name) {
            for (int i = 0; i < screens.size(); i++) {
                if (screens.get(i).name == name) {
                    return i + 1;
                }
            }
            return 0;
        }

        int ringAt(int i) {
            return i >= 0 && i < ringCount && i < rings.length ? rings[i] : 0;
        }

        void joinKeys() {
            for (int i = 0; i < screens.size(); i++) {
                Screen screen = screens.get(i);
                for (int key = 1; key <= MOST_KEY; key++) {
                    long name = screen.keyNames[key];
                    screen.keyScreens[key] = name == NO_NAME ? 0 : screenNumberOf(name);
                }
            }
        }

        void findRings() {
            // A way home is no longer than there are screens, and each round finds one key more of it.
            for (int round = 0; round < screens.size(); round++) {
                markScreensThatLeadHome();
            }
            for (int i = 0; i < screens.size(); i++) {
                if (!screens.get(i).leadsHome && ringCount < rings.length) {
                    rings[ringCount] = i + 1;
                    ringCount++;
                }
            }
        }

        private void markScreensThatLeadHome() {
            for (int i = 0; i < screens.size(); i++) {
                Screen screen = screens.get(i);
                // HOME needs no key to be there.
                screen.leadsHome = i == 0 || screen.leadsHome || hasKeyTowardsHome(screen);
            }
        }

        private boolean hasKeyTowardsHome(Screen screen) {
            for (int key = 1; key <= MOST_KEY; key++) {
                Screen next = screenNumbered(screen.screenBehindKey(key));
                if (next != null && next.leadsHome) {
                    return true;
                }
            }
            return false;
        }

        /** The line of the first screen that is wrong at the end, 0 if there is none. */
        int firstWrongScreenLine() {
            for (int i = 0; i < screens.size(); i++) {
                Screen screen = screens.get(i);
                if (!screen.leadsHome || screen.hasKeyToNowhere()) {
                    return screen.line;
                }
            }
            return 0;
        }
    }

    /** The words of one line of a text. */
    private static final class Line {
        // One more than the longest right line has, so that a longer one can be told from it.
        private static final int MOST_WORDS = 6;

        private final int[] starts = new int[MOST_WORDS];
        private final int[] ends = new int[MOST_WORDS];
        private String text = "";
        private int count;

        void split(String whole, int from, int to) {
            text = whole;
            count = 0;
            int start = from;
            for (int at = from; at <= to && count < MOST_WORDS; at++) {
                if (at == to || at >= whole.length() || whole.charAt(at) == SPACE) {
                    addWord(start, at);
                    start = at + 1;
                }
            }
        }

        private void addWord(int start, int end) {
            if (start < end && count < MOST_WORDS) {
                starts[count] = start;
                ends[count] = end;
                count++;
            }
        }

        int wordCount() {
            return count;
        }

        String wordAt(int i) {
            return i >= 0 && i < count ? text.substring(starts[i], ends[i]) : "";
        }

        /** The letters of a NAME, five bits each; NO_NAME if the word is none. */
        long nameAt(int i) {
            if (i < 0 || i >= count || ends[i] - starts[i] > NAME_LENGTH) {
                return NO_NAME;
            }
            long name = NO_NAME;
            for (int at = starts[i]; at < ends[i]; at++) {
                char letter = text.charAt(at);
                if (letter < 'a' || letter > 'z') {
                    return NO_NAME;
                }
                name = name * 32 + (letter - 'a' + 1);
            }
            return name;
        }

        /** A NUMBER; NO_NUMBER if the word is none. */
        int numberAt(int i) {
            if (i < 0 || i >= count) {
                return NO_NUMBER;
            }
            boolean negative = text.charAt(starts[i]) == '-';
            int first = negative ? starts[i] + 1 : starts[i];
            int digits = ends[i] - first;
            if (digits < 1 || digits > NUMBER_LENGTH) {
                return NO_NUMBER;
            }
            int number = 0;
            for (int at = first; at < ends[i]; at++) {
                char digit = text.charAt(at);
                if (digit < '0' || digit > '9') {
                    return NO_NUMBER;
                }
                number = number * 10 + (digit - '0');
            }
            return negative ? -number : number;
        }
    }

    /** Takes a text line by line into its plan. */
    private static final class Reader {
        final Plan plan = new Plan();
        private final Line line = new Line();
        private Screen screen;
        private Condition pending;

        /** The number of the first line that is wrong by itself, 0 if there is none. */
        int firstWrongLine(String text) {
            screen = null;
            pending = null;
            int number = 0;
            int start = 0;
            for (int at = 0; at <= text.length(); at++) {
                if (at == text.length() || text.charAt(at) == LINE_END) {
                    number++;
                    line.split(text, start, at);
                    if (line.wordCount() > 0 && !takeLine(number)) {
                        return number;
                    }
                    start = at + 1;
                }
            }
            return 0;
        }

        private boolean takeLine(int number) {
            String kind = line.wordAt(0);
            if (kind.equals("name")) {
                return takeName();
            }
            if (kind.equals("setting")) {
                return takeSetting();
            }
            if (kind.equals("screen")) {
                return takeScreen(number);
            }
            return screen != null && takeLineOf(screen, kind);
        }

        private boolean takeLineOf(Screen owner, String kind) {
            if (kind.equals("put")) {
                return takePut(owner);
            }
            if (kind.equals("say")) {
                return takeSay(owner);
            }
            if (kind.equals("show")) {
                return takeShow(owner);
            }
            if (kind.equals("if")) {
                return takeIf();
            }
            if (kind.equals("key")) {
                return takeKey(owner);
            }
            return kind.equals("bar") && takeBar(owner);
        }

        private boolean takeName() {
            long name = line.nameAt(1);
            if (line.wordCount() != 2 || !isFreeForValue(name)) {
                return false;
            }
            plan.values.add(new Value(name));
            return true;
        }

        private boolean takeSetting() {
            long name = line.nameAt(1);
            int low = line.numberAt(2);
            int high = line.numberAt(3);
            int first = line.numberAt(4);
            if (line.wordCount() != 5 || !isFreeForValue(name)) {
                return false;
            }
            if (low == NO_NUMBER || high == NO_NUMBER || first == NO_NUMBER) {
                return false;
            }
            if (first < low || first > high) {
                return false;
            }
            plan.values.add(new Value(name, low, high, first));
            return true;
        }

        private boolean isFreeForValue(long name) {
            return name != NO_NAME && plan.values.size() < MOST_VALUES && plan.valueNamed(name) == null;
        }

        private boolean takeScreen(int number) {
            long name = line.nameAt(1);
            if (line.wordCount() != 2 || name == NO_NAME) {
                return false;
            }
            if (plan.screens.size() >= MOST_SCREENS || plan.screenNumberOf(name) != 0) {
                return false;
            }
            screen = new Screen(name, number);
            plan.screens.add(screen);
            // An if counts for its own screen alone.
            pending = null;
            return true;
        }

        private boolean takePut(Screen owner) {
            String word = line.wordAt(3);
            return line.wordCount() == 4
                    && takePiece(owner, new WordPiece(line.numberAt(1), line.numberAt(2), pending, word, word));
        }

        private boolean takeSay(Screen owner) {
            String first = line.wordAt(3);
            String second = line.wordAt(4);
            if (second.equals("-")) {
                second = first;
            }
            return line.wordCount() == 5
                    && takePiece(owner, new WordPiece(line.numberAt(1), line.numberAt(2), pending, first, second));
        }

        private boolean takeShow(Screen owner) {
            int width = line.numberAt(3);
            Value value = plan.valueNamed(line.nameAt(4));
            if (line.wordCount() != 5 || width < 1 || width > MOST_SHOWN_COLUMNS || value == null) {
                return false;
            }
            return takePiece(owner, new ValuePiece(line.numberAt(1), line.numberAt(2), pending, value, width));
        }

        private boolean takePiece(Screen owner, Piece piece) {
            if (piece.row < 0 || piece.column < 0) {
                return false;
            }
            owner.pieces.add(piece);
            pending = null;
            return true;
        }

        private boolean takeIf() {
            Value value = plan.valueNamed(line.nameAt(1));
            String op = line.wordAt(2);
            int number = line.numberAt(3);
            if (line.wordCount() != 4 || value == null || number == NO_NUMBER) {
                return false;
            }
            if (!op.equals("=") && !op.equals("<") && !op.equals(">")) {
                return false;
            }
            pending = new Condition(value, op.charAt(0), number, pending);
            return true;
        }

        private boolean takeKey(Screen owner) {
            int key = line.numberAt(1);
            long name = line.nameAt(2);
            if (line.wordCount() != 3 || key < 1 || key > MOST_KEY || name == NO_NAME) {
                return false;
            }
            if (owner.keyNames[key] != NO_NAME) {
                return false;
            }
            owner.keyNames[key] = name;
            return true;
        }

        private boolean takeBar(Screen owner) {
            int bar = line.numberAt(1);
            if (line.wordCount() != 2 || bar < 0 || bar > MOST_SPEED) {
                return false;
            }
            owner.bar = bar;
            return true;
        }
    }

    /**
     * All warnings, and the open ones (not accepted) in their order. Which of the open ones of the
     * greatest rank is at hand can't be seen: of it the rank alone is shown, and they share that.
     */
    private static final class Warnings {
        private final int[] ranks = new int[MOST_WARNINGS];
        private final long[] times = new long[MOST_WARNINGS];
        private final int[] open = new int[MOST_WARNINGS];
        private int count;
        private int openCount;
        private long lastTime;

        int add(int rank, long t) {
            if (rank < 0 || rank > MOST_RANK || t < lastTime) {
                return OUTSIDE;
            }
            if (count >= MOST_WARNINGS) {
                return NO_ROOM;
            }
            ranks[count] = rank;
            times[count] = t;
            lastTime = t;
            count++;
            insertOpen(count, rank);
            return count;
        }

        // Times never fall, so a new warning stands behind all others of its rank.
        private void insertOpen(int number, int rank) {
            if (openCount >= open.length) {
                return;
            }
            int place = openCount;
            while (place > 0 && rankOf(open[place - 1]) < rank) {
                open[place] = open[place - 1];
                place--;
            }
            open[place] = number;
            openCount++;
        }

        private int rankOf(int number) {
            return number >= 1 && number <= count ? ranks[number - 1] : 0;
        }

        /** The number of the i-th open warning, 0 if there is none. */
        int openAt(int i) {
            return i >= 0 && i < openCount ? open[i] : 0;
        }

        int close(int number) {
            int place = placeInOpen(number);
            if (place < 0 || number < 1 || number > count) {
                return UNKNOWN;
            }
            if (lastTime - times[number - 1] < ACCEPT_AFTER) {
                return NOT_NOW;
            }
            openCount--;
            for (int i = place; i < openCount; i++) {
                open[i] = open[i + 1];
            }
            return openCount;
        }

        private int placeInOpen(int number) {
            for (int i = 0; i < openCount; i++) {
                if (open[i] == number) {
                    return i;
                }
            }
            return -1;
        }

        /** The sign in a column of the last row, NO_SIGN if no warning is shown there. */
        int signAt(int column) {
            if (openCount == 0) {
                return NO_SIGN;
            }
            int rank = rankOf(open[0]);
            if (column == 0) {
                return '!';
            }
            if (column == 1) {
                return '0' + rank / 10;
            }
            return column == 2 ? '0' + rank % 10 : NO_SIGN;
        }
    }
}
