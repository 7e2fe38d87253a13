/**
 * The edges of warnings, trips, sums and lamps, sentence by sentence: for each bound the last input that
 * is inside and the first that is outside, nothing at all, and all the room full.
 */
public final class CarEdgesTest {
    private static final Due due = new Due();
    private static final int MOST_WARNINGS = 200;
    private static final int MOST_CALLS = 512;
    private static final long MOST_OF_A_TRIP = 1000000000;

    public static void main(String[] args) {
        mostWarnings();
        ranks();
        times();
        timesOfRefusedWarnings();
        warningsInOrder();
        warningsThatAreNone();
        allWarningsInOrder();
        rankAtHand();
        acceptedOnTime();
        acceptedAtTheEndsOfTime();
        acceptedWarningsThatAreNone();
        acceptedTwice();
        allAccepted();
        trips();
        tripsOutside();
        sumsOfNothing();
        sumsInLowestTerms();
        sumsOfAllCalls();
        otherSums();
        lamps();
        lampsThatAreNone();
        due.end();
    }

    private static MenuScreens withWarnings(int count) {
        MenuScreens x = new MenuScreens(1, 3);
        for (int n = 1; n <= count; n++) {
            due.is("warning " + n, x.warn(n % 100, n), n);
        }
        return x;
    }

    private static void mostWarnings() {
        due.about("WARNINGS are numbered from 1 on, at most 200");
        MenuScreens x = withWarnings(MOST_WARNINGS - 1);
        due.is("the 200th", x.warn(5, 500), 200);
        due.about("-4 there are 200.");
        due.is("the 201st", x.warn(5, 500), -4);
        due.is("of the greatest RANK", x.warn(99, Long.MAX_VALUE), -4);
        due.is("accepted ones count", x.accept(1), 199);
        due.is("still no room", x.warn(5, 500), -4);
        due.is("the last one is there", x.accept(201), -1);
        MenuScreens read = withWarnings(MOST_WARNINGS);
        due.is("a new text", Due.read(read, "screen a"), 1);
        due.is("makes no room", read.warn(5, 500), -4);
    }

    private static void ranks() {
        due.about("A WARNING: its number. -2 the RANK is none");
        MenuScreens x = new MenuScreens(1, 3);
        for (int rank : new int[] {-1, 100, -99, 256, Integer.MIN_VALUE, Integer.MAX_VALUE}) {
            due.is("RANK " + rank, x.warn(rank, 0), -2);
        }
        due.is("none", x.warning(0), 0);
        due.is("nothing shown", Due.row(x, 0), "   ");
        due.about("with a RANK 0 .. 99 and a time.");
        due.is("RANK 0", x.warn(0, 0), 1);
        due.is("RANK 0 shown", Due.row(x, 0), "!00");
        due.is("RANK 99", x.warn(99, 0), 2);
        due.is("RANK 99 shown", Due.row(x, 0), "!99");
        due.is("RANK 100", x.warn(100, 0), -2);
        due.is("RANK 99 still", Due.row(x, 0), "!99");
    }

    private static void times() {
        due.about("or the time is below 0, or less than one before");
        MenuScreens x = new MenuScreens(1, 3);
        due.is("time -1", x.warn(5, -1), -2);
        due.is("least time", x.warn(5, Long.MIN_VALUE), -2);
        due.is("time 0", x.warn(5, 0), 1);
        due.is("time -1 behind 0", x.warn(5, -1), -2);
        due.is("time 0 again", x.warn(5, 0), 2);
        due.is("time 1", x.warn(5, 1), 3);
        due.is("less than one before", x.warn(5, 0), -2);
        due.is("of another RANK", x.warn(99, 0), -2);
        due.is("time 1 again", x.warn(5, 1), 4);
        due.is("beyond an int", x.warn(5, 1L << 40), 5);
        due.is("one less", x.warn(5, (1L << 40) - 1), -2);
        due.is("the greatest time", x.warn(5, Long.MAX_VALUE), 6);
        due.is("one less", x.warn(5, Long.MAX_VALUE - 1), -2);
        due.is("the greatest again", x.warn(5, Long.MAX_VALUE), 7);
        due.is("below 0", x.warn(5, Long.MIN_VALUE), -2);
        MenuScreens later = new MenuScreens(1, 3);
        due.is("the first one may be late", later.warn(5, 1000), 1);
        due.is("less", later.warn(5, 999), -2);
        due.is("the same", later.warn(5, 1000), 2);
        later.warn(5, 1030);
        later.accept(1);
        later.accept(2);
        due.is("less than one before that was accepted", later.warn(5, 1029), -2);
    }

    private static void timesOfRefusedWarnings() {
        due.about("REFUSALS change nothing");
        MenuScreens x = new MenuScreens(1, 3);
        x.warn(5, 100);
        due.is("refused by its RANK", x.warn(100, 130), -2);
        due.is("tells no time to accept by", x.accept(1), -3);
        due.is("and none to be less than", x.warn(5, 100), 2);
        due.is("refused by its time", x.warn(5, 99), -2);
        due.is("does not set the time back", x.warn(5, 99), -2);
        MenuScreens full = withWarnings(MOST_WARNINGS);
        due.is("no room", full.warn(5, 1000), -4);
        due.is("tells no time", full.accept(171), -3);
        due.is("30 behind the 200th", full.accept(170), 199);
    }

    private static String order(MenuScreens x, int count) {
        StringBuilder all = new StringBuilder();
        for (int i = 0; i <= count; i++) {
            all.append(x.warning(i)).append(' ');
        }
        return all.toString().trim();
    }

    private static void warningsInOrder() {
        due.about("The i-th WARNING (from 0) that was not accepted, by RANK from the greatest on, then time, then number");
        MenuScreens x = new MenuScreens(1, 3);
        x.warn(50, 0);
        due.is("one", order(x, 1), "1 0");
        x.warn(50, 0);
        due.is("same RANK, same time", order(x, 2), "1 2 0");
        x.warn(50, 1);
        due.is("same RANK, later", order(x, 3), "1 2 3 0");
        x.warn(51, 1);
        due.is("one RANK more", order(x, 4), "4 1 2 3 0");
        x.warn(49, 1);
        due.is("one RANK less", order(x, 5), "4 1 2 3 5 0");
        x.warn(0, 2);
        x.warn(99, 2);
        due.is("the least and the greatest RANK", order(x, 7), "7 4 1 2 3 5 6 0");
        x.warn(50, 40);
        due.is("same RANK, the last one", order(x, 8), "7 4 1 2 3 8 5 6 0");
        due.is("one between accepted", x.accept(2), 7);
        due.is("without it", order(x, 7), "7 4 1 3 8 5 6 0");
        due.is("the first accepted", x.accept(7), 6);
        due.is("without the first", order(x, 6), "4 1 3 8 5 6 0");
        due.is("the last accepted", x.accept(6), 5);
        due.is("without the last", order(x, 5), "4 1 3 8 5 0");
        due.is("too early", x.accept(8), -3);
        due.is("still there", order(x, 5), "4 1 3 8 5 0");
    }

    private static void warningsThatAreNone() {
        due.about("0 if there is none.");
        MenuScreens x = new MenuScreens(1, 3);
        int[] places = {-1, 0, 1, 199, 200, Integer.MIN_VALUE, Integer.MAX_VALUE};
        for (int i : places) {
            due.is("place " + i + " of none", x.warning(i), 0);
        }
        x.warn(7, 0);
        for (int i : places) {
            due.is("place " + i + " of one", x.warning(i), i == 0 ? 1 : 0);
        }
        x.warn(7, 30);
        x.accept(1);
        for (int i : places) {
            due.is("place " + i + " of one that is left", x.warning(i), i == 0 ? 2 : 0);
        }
    }

    private static void allWarningsInOrder() {
        due.about("by RANK from the greatest on, then time, then number");
        MenuScreens x = withWarnings(MOST_WARNINGS);
        for (int i = 0; i < MOST_WARNINGS; i++) {
            // Number n has the RANK n modulo 100, so each RANK has two.
            int rank = 99 - i / 2;
            int number = i % 2 == 0 ? rank : rank + 100;
            due.is("place " + i, x.warning(i), rank == 0 ? number + 100 : number);
        }
        due.is("place 200", x.warning(MOST_WARNINGS), 0);
        due.is("place -1", x.warning(-1), 0);
    }

    private static void rankAtHand() {
        due.about("AT HAND is one of those of the greatest RANK that were not accepted");
        MenuScreens x = new MenuScreens(1, 3);
        x.warn(99, 0);
        x.warn(98, 0);
        x.warn(98, 5);
        x.warn(0, 5);
        due.about("of n of these, by their times, then by number, the one whose place (from 0) is (the last time told / 10) modulo n (whole).");
        // Of the one at hand its RANK alone is told, and that is the same for all n.
        for (int t = 5; t < 35; t++) {
            due.is("told time", x.warn(0, t), t);
            due.is("at " + t, Due.row(x, 0), "!99");
        }
        x.warn(0, 40);
        due.is("the greatest accepted", x.accept(1), 34);
        due.is("the next RANK", Due.row(x, 0), "!98");
        due.is("one of two accepted", x.accept(3), 33);
        due.is("the other one", Due.row(x, 0), "!98");
        due.is("the other one accepted", x.accept(2), 32);
        due.is("RANK 0", Due.row(x, 0), "!00");
    }

    private static void acceptedOnTime() {
        due.about("It can be accepted 30 or more behind its time.");
        for (long start : new long[] {0, 1, 1000, 1L << 33}) {
            MenuScreens x = new MenuScreens(1, 3);
            x.warn(5, start);
            due.is("0 behind " + start, x.accept(1), -3);
            x.warn(6, start + 29);
            due.is("29 behind " + start, x.accept(1), -3);
            x.warn(4, start + 30);
            due.is("30 behind " + start, x.accept(1), 2);
            due.is("1 behind", x.accept(2), -3);
            x.warn(4, start + 31);
            due.is("2 behind", x.accept(2), -3);
            x.warn(4, start + 60);
            due.is("31 behind", x.accept(2), 3);
            due.is("30 behind", x.accept(3), 2);
            due.is("29 behind", x.accept(4), -3);
        }
    }

    private static void acceptedAtTheEndsOfTime() {
        due.about("-3 it is too early (by the last time told).");
        MenuScreens x = new MenuScreens(1, 3);
        x.warn(5, 0);
        x.warn(5, Long.MAX_VALUE - 30);
        x.warn(5, Long.MAX_VALUE - 29);
        x.warn(5, Long.MAX_VALUE);
        due.is("as far behind as can be", x.accept(1), 3);
        due.is("30 behind", x.accept(2), 2);
        due.is("29 behind", x.accept(3), -3);
        due.is("0 behind", x.accept(4), -3);
    }

    private static void acceptedWarningsThatAreNone() {
        due.about("A WARNING is accepted: how many are left. -1 there is none, or it was");
        MenuScreens x = new MenuScreens(1, 3);
        int[] none = {0, -1, 3, 200, 201, 257, Integer.MIN_VALUE, Integer.MAX_VALUE};
        due.is("none at all", x.accept(1), -1);
        x.warn(5, 0);
        x.warn(5, 30);
        for (int number : none) {
            due.is("number " + number, x.accept(number), -1);
        }
        due.is("the first", x.accept(1), 1);
        due.is("it was", x.accept(1), -1);
        due.is("the second is too early", x.accept(2), -3);
        due.is("it was, still", x.accept(1), -1);
        x.warn(0, 60);
        due.is("the second", x.accept(2), 1);
        due.is("it was, too", x.accept(2), -1);
    }

    private static void acceptedTwice() {
        due.about("-1 there is none, or it was");
        int[][] ranksOfThree = {{1, 2, 3}, {3, 2, 1}, {2, 2, 2}, {1, 3, 2}, {2, 1, 3}};
        for (int[] ranks : ranksOfThree) {
            for (int first = 1; first <= 3; first++) {
                MenuScreens x = new MenuScreens(1, 3);
                for (int rank : ranks) {
                    x.warn(rank, 0);
                }
                x.warn(0, 30);
                due.is("accept " + first, x.accept(first), 3);
                due.is("accept " + first + " again", x.accept(first), -1);
                int second = first % 3 + 1;
                due.is("accept " + second, x.accept(second), 2);
                due.is("accept " + second + " again", x.accept(second), -1);
                due.is("accept " + first + " once more", x.accept(first), -1);
            }
        }
        MenuScreens full = withWarnings(MOST_WARNINGS);
        due.is("none of 200", full.accept(201), -1);
        due.is("the last in order", full.accept(100), 199);
        due.is("it was", full.accept(100), -1);
    }

    private static void allAccepted() {
        due.about("A WARNING is accepted: how many are left.");
        MenuScreens x = withWarnings(MOST_WARNINGS - 1);
        x.warn(0, 1000);
        for (int number = 1; number < MOST_WARNINGS; number++) {
            due.is("accept " + number, x.accept(number), MOST_WARNINGS - number);
        }
        due.is("the last one is too early", x.accept(200), -3);
        due.is("the last one", x.warning(0), 200);
        due.is("no other", x.warning(1), 0);
    }

    private static void trips() {
        due.about("A trip: how many there were.");
        MenuScreens x = new MenuScreens(1, 1);
        due.is("nothing at all", x.trip(0, 0), 1);
        due.is("1 and 1", x.trip(1, 1), 2);
        due.is("the most metres", x.trip(MOST_OF_A_TRIP, 0), 3);
        due.is("the most cents", x.trip(0, MOST_OF_A_TRIP), 4);
        due.is("the most of both", x.trip(MOST_OF_A_TRIP, MOST_OF_A_TRIP), 5);
        due.is("metres", x.sum(0, 0), 2 * MOST_OF_A_TRIP + 1);
        due.is("cents", x.sum(1, 0), 2 * MOST_OF_A_TRIP + 1);
    }

    private static void tripsOutside() {
        due.about("-2 metres or cents are below 0 or above 1000000000.");
        MenuScreens x = new MenuScreens(1, 1);
        x.trip(7, 8);
        long[] outside = {-1, MOST_OF_A_TRIP + 1, Long.MIN_VALUE, Long.MAX_VALUE, Integer.MIN_VALUE, 1L << 32, -(1L << 32)};
        for (long amount : outside) {
            due.is("metres " + amount, x.trip(amount, 0), -2);
            due.is("cents " + amount, x.trip(0, amount), -2);
            due.is("both " + amount, x.trip(amount, amount), -2);
        }
        due.is("metres", x.sum(0, 0), 7);
        due.is("cents", x.sum(1, 0), 8);
        due.is("none was a trip", x.trip(0, 0), 2);
    }

    private static void fraction(MenuScreens x, long above, long below) {
        due.is("above", x.sum(2, 0), above);
        for (int side : new int[] {1, -1, 2, Integer.MIN_VALUE, Integer.MAX_VALUE}) {
            due.is("below, side " + side, x.sum(2, side), below);
        }
    }

    private static void sumsOfNothing() {
        due.about("0 / 0 without metres.");
        MenuScreens x = new MenuScreens(1, 1);
        fraction(x, 0, 0);
        due.is("no metres", x.sum(0, 0), 0);
        due.is("no cents", x.sum(1, 0), 0);
        x.trip(0, 0);
        fraction(x, 0, 0);
        x.trip(0, 5);
        fraction(x, 0, 0);
        due.is("cents alone", x.sum(1, 0), 5);
        x.trip(1, 0);
        fraction(x, 5000, 1);
    }

    private static void fractionOf(long metres, long cents, long above, long below) {
        MenuScreens x = new MenuScreens(1, 1);
        x.trip(metres, cents);
        fraction(x, above, below);
    }

    private static void sumsInLowestTerms() {
        due.about("2 cents for 1000 metres as a fraction in lowest terms, what is above (side 0) or below (others)");
        fractionOf(1, 0, 0, 1);
        fractionOf(MOST_OF_A_TRIP, 0, 0, 1);
        fractionOf(1, 1, 1000, 1);
        fractionOf(1000, 1, 1, 1);
        fractionOf(999, 1, 1000, 999);
        fractionOf(1001, 1, 1000, 1001);
        fractionOf(2000, 1, 1, 2);
        fractionOf(1500, 1, 2, 3);
        fractionOf(7, 7, 1000, 1);
        fractionOf(1, MOST_OF_A_TRIP, 1000 * MOST_OF_A_TRIP, 1);
        fractionOf(MOST_OF_A_TRIP, 1, 1, 1000000);
        fractionOf(MOST_OF_A_TRIP, MOST_OF_A_TRIP, 1000, 1);
        fractionOf(999999999, MOST_OF_A_TRIP, 1000 * MOST_OF_A_TRIP, 999999999);
        // Neighbours of the Fibonacci row have no common divisor, and it takes long to see that.
        fractionOf(433494437, 701408733, 701408733000L, 433494437);
    }

    private static void sumsOfAllCalls() {
        due.about("SUMS: metres and cents of all trips.");
        MenuScreens x = new MenuScreens(1, 1);
        int trips = MOST_CALLS - 4;
        for (int n = 1; n <= trips; n++) {
            due.is("trip " + n, x.trip(MOST_OF_A_TRIP, MOST_OF_A_TRIP - n % 2), n);
        }
        due.is("metres", x.sum(0, 1), trips * MOST_OF_A_TRIP);
        due.is("cents", x.sum(1, 1), trips * MOST_OF_A_TRIP - trips / 2);
        due.is("above", x.sum(2, 0), 2 * MOST_OF_A_TRIP - 1);
        due.is("below", x.sum(2, 1), 2000000);
    }

    private static void otherSums() {
        due.about("what = 0 all metres, 1 all cents");
        MenuScreens x = new MenuScreens(1, 1);
        x.trip(30, 40);
        for (int side : new int[] {0, 1, -1, Integer.MIN_VALUE, Integer.MAX_VALUE}) {
            due.is("metres, side " + side, x.sum(0, side), 30);
            due.is("cents, side " + side, x.sum(1, side), 40);
        }
        due.about("-2 another what.");
        for (int what : new int[] {-1, 3, 256, Integer.MIN_VALUE, Integer.MAX_VALUE}) {
            due.is("what " + what, x.sum(what, 0), -2);
            due.is("what " + what, x.sum(what, 1), -2);
        }
    }

    private static void lamps() {
        due.about("Lamp i (0 .. 15) was tested: how many do not work by then (all do at first).");
        for (int i = 0; i < 16; i++) {
            MenuScreens x = new MenuScreens(1, 1);
            due.is("works at first", x.lamp(i, true), 0);
            due.is("does not", x.lamp(i, false), 1);
            due.is("does not again", x.lamp(i, false), 1);
            due.is("another works", x.lamp((i + 1) % 16, true), 1);
            due.is("works", x.lamp(i, true), 0);
            due.is("works again", x.lamp(i, true), 0);
        }
        MenuScreens all = new MenuScreens(1, 1);
        for (int i = 0; i < 16; i++) {
            due.is("lamp " + i + " does not", all.lamp(i, false), i + 1);
        }
        due.is("all, again", all.lamp(15, false), 16);
        for (int i = 15; i >= 0; i--) {
            due.is("lamp " + i + " works", all.lamp(i, true), i);
        }
    }

    private static void lampsThatAreNone() {
        due.about("-1 there is none.");
        MenuScreens x = new MenuScreens(1, 1);
        x.lamp(0, false);
        x.lamp(15, false);
        for (int i : new int[] {-1, 16, 31, 32, 47, -16, -32, 256, Integer.MIN_VALUE, Integer.MAX_VALUE}) {
            due.is("lamp " + i + " works", x.lamp(i, true), -1);
            due.is("lamp " + i + " does not", x.lamp(i, false), -1);
        }
        due.is("none changed", x.lamp(1, true), 2);
    }
}
