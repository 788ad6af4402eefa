/** Promises 23 to 28 and 36: the best arrangement. */
public final class ArrangementTest {
    private static final String ALL = "chart 5 5;land 0 0 4;land 1 0 4;land 2 0 4;land 3 0 4;land 4 0 4;";

    public static void main(String[] args) {
        redFirst();
        thenMost();
        thenTurning();
        thenDirections();
        manyNames();
        shy();
        eachAnew();
        wrong();
        Check.end();
    }

    private static void best(String text, int turning, int count, String directions) {
        PortolanChart chart = Charts.of(text);
        String before = Charts.state(chart);
        Check.same("23 least", turning, chart.least());
        Check.same("24 placedThen", count, chart.placedThen());
        StringBuilder got = new StringBuilder();
        StringBuilder placed = new StringBuilder();
        for (int harbour = 0; harbour < chart.size(3); harbour++) {
            got.append(harbour == 0 ? "" : " ").append(chart.arranged(harbour));
            boolean red = chart.harbour(harbour, 1) == 1;
            Check.same("26 as it is", turning, chart.leastIf(harbour, red));
            Check.same("27 as it is", count, chart.placedIf(harbour, red));
        }
        Check.same("25 arranged", directions, got.toString());
        Check.same("predictions change nothing", before, Charts.state(chart));
        Check.same("36 arrange", count, chart.arrange());
        for (int harbour = 0; harbour < chart.size(3); harbour++) {
            placed.append(harbour == 0 ? "" : " ").append(chart.harbour(harbour, 2));
        }
        Check.same("36 as it was told", directions, placed.toString());
        Check.same("36 the turning is as it was told", turning, chart.turning());
        Check.same("36 they are placed", count, chart.size(5));
        Check.same("36 the same again", count, chart.arrange());
        Check.same("36 both count", 2, chart.size(11));
    }

    private static void redFirst() {
        String text = ALL + "harbour xyz 2 0 red;harbour aa 0 1;harbour bb 0 2;voyage xyz aa bb";
        best(text, 0, 1, "1 -1 -1");
        best(text.replace(" red", ""), 1, 2, "-1 2 2");
        PortolanChart chart = Charts.of(text);
        Check.same("27 if it was not red", 2, chart.placedIf(0, false));
        Check.same("26 if it was not red", 1, chart.leastIf(0, false));
        Check.same("27 one red either way", 2, chart.placedIf(1, true));
        Check.same("26 one red either way", 1, chart.leastIf(1, true));
        chart.setRed(0, false);
        Check.same("27 if it was red", 1, chart.placedIf(0, true));
        Check.same("26 if it was red", 0, chart.leastIf(0, true));
        Check.same("27 one red against two", 2, chart.placedIf(1, true));
        Check.same("8 still not red", 0, chart.harbour(0, 1));
        best(ALL + "harbour xyz 2 0 red;harbour aa 0 1 red;harbour bb 0 2 red", 0, 2, "-1 2 2");
        best(ALL + "harbour xyz 2 0;harbour ax 0 1 red", 0, 1, "-1 2");
        best(ALL + "harbour xyz 2 0;harbour ax 0 1", 0, 2, "1 2");
    }

    private static void thenMost() {
        best("chart 3 3", 0, 0, "");
        best(ALL + "harbour abcdefgh 0 0", 0, 0, "-1");
        best(ALL + "harbour abcde 2 0;harbour ab 0 2;voyage ab", 1, 1, "-1 2");
        best(ALL + "harbour ab 2 0;harbour cb 2 4;place ab right;voyage cb ab cb", 6, 2, "1 3");
        // the corner keeps out of the way of two others
        best(ALL + "harbour ab 0 0;harbour xy 1 0;harbour uv 2 0;turn 1;voyage ab", 1, 3, "1 1 1");
        best(ALL + "harbour ab 0 0;harbour xy 0 1;harbour uv 0 2;voyage ab", 1, 3, "2 2 2");
        best(ALL + "harbour x 1 0;harbour y 0 1;place y down", 0, 1, "1 -1");
    }

    private static void thenTurning() {
        String corner = ALL + "harbour a 0 0;voyage a;turn ";
        best(corner + "0", 0, 1, "1");
        best(corner + "1", 0, 1, "2");
        best(corner + "2", 1, 1, "2");
        best(corner + "3", 1, 1, "1");
        best(ALL + "harbour a 0 0;turn 1", 0, 1, "1");
        best(ALL + "harbour a 0 0;harbour b 4 4;voyage a b a;turn 1", 2, 2, "2 3");
        best(ALL + "harbour a 0 0;harbour b 0 4;voyage a b a", 1, 2, "2 2");
        best(ALL + "harbour x 1 0;harbour y 0 1;voyage x y;turn 2", 1, 1, "-1 2");
        best(ALL + "harbour x 1 0;harbour y 0 1;voyage x y;turn 3", 1, 1, "1 -1");
    }

    private static void thenDirections() {
        best(ALL + "harbour x 1 0;harbour y 0 1", 0, 1, "1 -1");
        best(ALL + "harbour y 0 1;harbour x 1 0", 0, 1, "2 -1");
        best(ALL + "harbour a 4 0;harbour b 4 4;harbour c 0 4;harbour d 0 0", 0, 4, "0 0 2 1");
        best(ALL + "harbour a 0 0;harbour b 0 2;turn 2", 0, 2, "1 2");
        best(ALL + "harbour aaa 0 0;harbour bbb 0 4;harbour c 4 0", 0, 3, "1 2 0");
        best(ALL + "harbour aaab 0 0;harbour q 0 3", 0, 2, "2 2");
    }

    private static void manyNames() {
        String text = "chart 12 12;land 0 0 11;land 11 0 11";
        StringBuilder rows = new StringBuilder(text);
        for (int row = 1; row < 11; row++) {
            rows.append(";land ").append(row).append(" 0 11");
        }
        rows.append(";harbour a 0 0;harbour b 0 11;harbour c 11 0;harbour d 11 11;harbour e 5 0;harbour f 0 5;"
            + "harbour g 11 6;harbour h 6 11;voyage a b c d e f g h");
        best(rows.toString(), 8, 8, "1 2 0 0 1 2 0 3");
    }

    private static void shy() {
        PortolanChart chart = Charts.of(ALL + "harbour xyz 2 0 red;harbour aa 0 1;harbour bb 0 2;voyage xyz aa bb");
        Check.same("28 only the first one", 1, chart.shy());
        chart.arrange();
        Check.same("28 it does not matter how they are placed", 1, chart.shy());
        Check.same("28 none", 0, new PortolanChart().shy());
        Check.same("28 alone", 1, Charts.of(ALL + "harbour abcdefgh 0 0").shy());
        Check.same("28 all can be placed anyway", 3, Charts.of(ALL + "harbour a 0 0;harbour b 0 1").shy());
        Check.same("28 either of two", 3, Charts.of(ALL + "harbour x 1 0;harbour y 0 1").shy());
        Check.same("28 a cell in the way", 2,
            Charts.of("chart 3 8;land 1 0 5;harbour abc 1 0;harbour q 1 2").shy());
        Check.same("28 the cell stays land", 1,
            Charts.of("chart 3 8;land 1 0 5;harbour abc 1 1;harbour q 1 0;harbour r 1 5").shy());
        Check.same("28 two that cannot be placed", 0,
            Charts.of(ALL + "harbour abcdefgh 0 0;harbour bcdefghi 0 4;harbour a 2 0").shy());
        Check.same("28 the one that cannot be placed", 1,
            Charts.of(ALL + "harbour abcdefgh 0 0;harbour a 2 0").shy());
    }

    /** Each answer is found by its own call, not left by an earlier one. */
    private static void eachAnew() {
        String text = ALL + "harbour xyz 2 0 red;harbour aa 0 1;harbour bb 0 2;voyage xyz aa bb;turn 1";
        Check.same("23 alone", 1, Charts.of(text).least());
        Check.same("24 alone", 1, Charts.of(text).placedThen());
        Check.same("25 alone", 1, Charts.of(text).arranged(0));
        Check.same("26 alone", 0, Charts.of(text).leastIf(0, false));
        Check.same("27 alone", 2, Charts.of(text).placedIf(0, false));
        Check.same("36 alone", 1, Charts.of(text).arrange());
        PortolanChart chart = Charts.of(text);
        chart.placedIf(0, false);
        Check.same("36 not as it would be", 1, chart.arrange());
        Check.same("36 the red one", 1, chart.harbour(0, 2));
    }

    private static void wrong() {
        PortolanChart chart = Charts.of(ALL + "harbour x 1 0;harbour y 0 1");
        for (int harbour : new int[] {-1, 2, 8, 32, Integer.MIN_VALUE, Integer.MAX_VALUE}) {
            Check.noIndex("25 harbour", () -> chart.arranged(harbour));
            Check.noIndex("26 harbour", () -> chart.leastIf(harbour, true));
            Check.noIndex("27 harbour", () -> chart.placedIf(harbour, false));
        }
    }
}
