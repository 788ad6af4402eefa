/** Promises 34, 35, 37 and 40 to 45: the actions but for arrange and those on rivers. */
public final class ActionsTest {
    private static final String ALL = "chart 5 5;land 0 0 4;land 1 0 4;land 2 0 4;land 3 0 4;land 4 0 4;";
    private static final String TWO = ALL + "harbour ab 2 0;harbour xb 0 2;";
    private static final int[] NO_HARBOUR = {-1, 2, 8, Integer.MIN_VALUE, Integer.MAX_VALUE};

    public static void main(String[] args) {
        place();
        lift();
        setRed();
        erode();
        raise();
        sail();
        cut();
        turnPage();
        read();
        Check.end();
    }

    private static void place() {
        PortolanChart chart = Charts.of(ALL + "harbour ab 0 0;harbour xb 4 0");
        Check.same("34 not placed before", -1, chart.place(0, 1));
        Check.same("34 it lies there", "@ab../...../...../...../@....", Charts.picture(chart));
        Check.same("34 where it was", 1, chart.place(0, 2));
        Check.same("34 it was taken from there", "@..../a..../b..../...../@....", Charts.picture(chart));
        Check.same("34 the same way again", 2, chart.place(0, 2));
        Check.same("34 all three count", 3, chart.size(11));
        Check.same("34 not inland", -3, chart.place(0, 0));
        Check.same("34 crossing another one", -1, chart.place(1, 0));
        Check.same("34 both", "@..../a..../b..../x..../@....", Charts.picture(chart));
        chart.setRed(0, true);
        Check.same("34 it crossed it", -1, chart.harbour(1, 2));
        Check.same("34 red names are crossed by none", -3, chart.place(1, 0));
        Check.same("34 what is wrong does not count", 5, chart.size(11));
        for (int harbour : NO_HARBOUR) {
            Check.noIndex("34 harbour", () -> chart.place(harbour, 1));
            Check.noIndex("34 the harbour is looked at first", () -> chart.place(harbour, 4));
            Check.noIndex("35 harbour", () -> chart.lift(harbour));
            Check.noIndex("37 harbour", () -> chart.setRed(harbour, true));
            Check.noIndex("42 harbour", () -> chart.sail(harbour));
        }
        for (int direction : new int[] {-1, 4, Integer.MIN_VALUE, Integer.MAX_VALUE}) {
            Check.noArgument("34 direction", () -> chart.place(0, direction));
        }
        Check.same("34 nothing changed", 5, chart.size(11));
    }

    private static void lift() {
        PortolanChart chart = Charts.of(TWO + "place ab right;place xb down");
        Check.same("35 where it was", 1, chart.lift(0));
        Check.same("35 the other one stays", "..@../..x../@.b../...../.....", Charts.picture(chart));
        Check.same("35 it is not placed", -3, chart.lift(0));
        Check.same("35 one action", 1, chart.size(11));
        Check.same("35 down", 2, chart.lift(1));
        Check.same("35 all gone", 0, chart.size(5));
    }

    private static void setRed() {
        PortolanChart chart = Charts.of(TWO + "harbour yb 4 2;place ab right;place xb down;place yb up");
        Check.same("37 it was not", false, chart.setRed(1, false));
        Check.same("37 nothing is lifted", 3, chart.size(5));
        Check.same("37 it was not", false, chart.setRed(0, true));
        Check.same("37 it stays", 1, chart.harbour(0, 2));
        Check.same("37 the others are lifted", 1, chart.size(5));
        Check.same("37 it is red now", 1, chart.harbour(0, 1));
        Check.same("37 the others are not", 0, chart.harbour(1, 1) + chart.harbour(2, 1));
        Check.same("37 it was", true, chart.setRed(0, true));
        Check.same("37 it was", true, chart.setRed(0, false));
        Check.same("37 not any more", 0, chart.harbour(0, 1));
        Check.same("37 all count", 4, chart.size(11));
        chart.place(1, 2);
        Check.same("37 it was not", false, chart.setRed(2, true));
        Check.same("37 not placed, none is lifted", 2, chart.size(5));
        Check.same("37 a red one that is not placed", 0, chart.size(6));
    }

    private static void erode() {
        PortolanChart chart = Charts.of(TWO + "harbour q 4 0;place ab right;place xb down;place q right;river 3 3");
        Check.same("40 the river", "[18, 19]", Charts.river(chart, 0).toString());
        Check.same("40 two names", 2, chart.erode(12));
        Check.same("40 they are lifted", "..@../...../@.~../...==/@q...", Charts.picture(chart));
        Check.same("40 none", 0, chart.erode(24));
        Check.same("40 one", 1, chart.erode(21));
        Check.same("40 sea", -3, chart.erode(12));
        Check.same("40 a harbour", -3, chart.erode(10));
        Check.same("40 a river", -3, chart.erode(18));
        Check.same("40 three count", 3, chart.size(11));
        Check.same("40 land", 22, chart.size(2));
        Check.same("40 behind a harbour", 0, chart.erode(0));
        for (int cell : new int[] {-1, 25, 144, Integer.MIN_VALUE, Integer.MAX_VALUE}) {
            Check.noIndex("40 cell", () -> chart.erode(cell));
            Check.noIndex("41 cell", () -> chart.raise(cell));
        }
    }

    private static void raise() {
        PortolanChart chart = Charts.of("chart 5 6;land 1 1 4;land 2 1 4;land 3 1 4;harbour ab 2 1;harbour ac 1 2;"
            + "harbour q 3 4;place ab right;place ac down;place q left");
        Check.same("41 as it is", "~~~~~~/~.@..~/~@ab.~/~.cq@~/~~~~~~", Charts.picture(chart));
        Check.same("41 land already", -3, chart.raise(9));
        Check.same("41 a harbour", -3, chart.raise(8));
        Check.same("41 its only sea", -3, chart.raise(12));
        Check.same("41 its only sea", -3, chart.raise(2));
        Check.same("41 there is more sea, but the name does not go inland any more", 1, chart.raise(23));
        Check.same("41 it is lifted", "~~~~~~/~.@..~/~@ab.~/~.c.@./~~~~~~", Charts.picture(chart));
        Check.same("41 now its only sea", -3, chart.raise(28));
        Check.same("41 far away", 0, chart.raise(29));
        Check.same("41 two actions", 2, chart.size(11));
        Check.same("41 land", 14, chart.size(2));
        Check.same("41 at the rim the sea is beyond", 0,
            Charts.of("chart 3 3;land 0 1 1;land 1 1 1;land 2 1 1;harbour a 0 1;place a down").raise(0));
        PortolanChart both = Charts.of("chart 3 5;land 1 0 1;land 1 3 4;harbour a 1 3;harbour b 1 1;place a right;"
            + "place b left");
        Check.same("41 above them", 0, both.raise(3));
        Check.same("41 two names with their backs to it", 2, both.raise(7));
        Check.same("41 both are lifted", 0, both.size(5));
    }

    private static void sail() {
        PortolanChart chart = Charts.of(TWO + "voyage xb");
        Check.same("42 two", 2, chart.sail(0));
        Check.same("42 the same again", 3, chart.sail(0));
        Check.same("42 at the end", "[1, 0, 0]", Charts.voyage(chart).toString());
        for (int count = 4; count <= 16; count++) {
            Check.same("42 more", count, chart.sail(1));
        }
        Check.same("42 a 17th one", -2, chart.sail(1));
        Check.same("42 sixteen", 16, chart.size(7));
        chart.undo();
        Check.same("42 full did not count", 15, chart.size(7));
        PortolanChart empty = Charts.of(TWO + "turn 1");
        Check.same("42 the first one", 1, empty.sail(1));
        Check.same("42 the place", 0, empty.size(9));
    }

    private static void cut() {
        PortolanChart chart = Charts.of(TWO + "voyage ab xb ab ab xb");
        chart.read();
        chart.read();
        Check.same("43 the place", 2, chart.size(9));
        Check.same("43 behind it", 0, chart.cut(3));
        Check.same("43 the place stays", 2, chart.size(9));
        Check.same("43 ahead of it", 0, chart.cut(0));
        Check.same("43 the place is one less", 1, chart.size(9));
        Check.same("43 what is left", "[1, 0, 1]", Charts.voyage(chart).toString());
        Check.same("43 at it", 0, chart.cut(1));
        Check.same("43 the place stays", 1, chart.size(9));
        Check.same("43 at it, the last one", 1, chart.cut(1));
        Check.same("43 the place begins anew", 0, chart.size(9));
        for (int index : new int[] {-1, 1, 16, Integer.MIN_VALUE, Integer.MAX_VALUE}) {
            Check.noIndex("43 no such place", () -> chart.cut(index));
        }
        Check.same("43 the last of all", 1, chart.cut(0));
        Check.same("43 none is left", 0, chart.size(7));
        Check.same("43 the place", 0, chart.size(9));
        Check.noIndex("43 an empty voyage", () -> chart.cut(0));
    }

    private static void turnPage() {
        int[][] due = {{0, 1, 2, 1}, {1, 0, 1, 2}, {2, 1, 0, 1}, {1, 2, 1, 0}};
        int sum = 0;
        PortolanChart chart = new PortolanChart();
        for (int from = 0; from < 4; from++) {
            for (int to = 0; to < 4; to++) {
                sum += chart.turnPage(from);
                Check.same("44 from " + from + " to " + to, due[from][to], chart.turnPage(to));
                sum += due[from][to];
                Check.same("44 as it is", to, chart.size(8));
                Check.same("44 they count", sum, chart.size(10));
            }
        }
        Check.same("44 actions", 8, chart.size(11));
        for (int turn : new int[] {-1, 4, Integer.MIN_VALUE, Integer.MAX_VALUE}) {
            Check.noArgument("44 turn", () -> chart.turnPage(turn));
        }
    }

    private static void read() {
        PortolanChart chart = Charts.of(TWO + "harbour c 2 4;voyage ab c xb;place ab right;place c left;turn 1");
        Check.same("45 the first one", 0, chart.read());
        Check.same("45 the page", "0 1 1", chart.size(8) + " " + chart.size(9) + " " + chart.size(10));
        Check.same("45 the second one", 2, chart.read());
        Check.same("45 the page", "2 2 3", chart.size(8) + " " + chart.size(9) + " " + chart.size(10));
        Check.same("45 not placed", 1, chart.read());
        Check.same("45 the page stays", "2 0 3", chart.size(8) + " " + chart.size(9) + " " + chart.size(10));
        Check.same("45 the first one again", 0, chart.read());
        Check.same("45 the page", "0 1 5", chart.size(8) + " " + chart.size(9) + " " + chart.size(10));
        Check.same("45 actions", 4, chart.size(11));
        PortolanChart empty = Charts.of(TWO + "turn 1");
        Check.same("45 no voyage", -3, empty.read());
        Check.same("45 no action", 0, empty.size(11));
    }
}
