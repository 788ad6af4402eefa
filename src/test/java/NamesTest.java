/** Promises 12 to 17: how names may be placed, and what they cover. */
public final class NamesTest {
    // a strip of land with the columns 0 to 5 in a sea of 3 rows and 8 columns
    private static final String STRIP = "chart 3 8;land 1 0 5;";
    // all land, 5 rows and 7 columns
    private static final String ALL = "chart 5 7;land 0 0 6;land 1 0 6;land 2 0 6;land 3 0 6;land 4 0 6;";

    public static void main(String[] args) {
        inland();
        groundReasons();
        otherNames();
        room();
        crossings();
        free();
        Check.end();
    }

    private static void reasons(String text, int harbour, String due) {
        PortolanChart chart = Charts.of(text);
        reasons(chart, harbour, due);
    }

    private static void reasons(PortolanChart chart, int harbour, String due) {
        StringBuilder got = new StringBuilder();
        int ways = 0;
        for (int direction = 0; direction < 4; direction++) {
            int reason = chart.why(harbour, direction);
            got.append(direction == 0 ? "" : " ").append(reason);
            ways += reason == 0 ? 1 << direction : 0;
        }
        Check.same("12 reasons", due, got.toString());
        int dueWays = 0;
        for (int direction = 0; direction < 4; direction++) {
            dueWays += due.split(" ")[direction].equals("0") ? 1 << direction : 0;
        }
        Check.same("13 ways", dueWays, chart.ways(harbour));
        Check.same("13 as the reasons say", ways, chart.ways(harbour));
    }

    private static void inland() {
        reasons(ALL + "harbour a 0 3", 0, "1 1 0 1");
        reasons(ALL + "harbour a 2 6", 0, "1 1 1 0");
        reasons(ALL + "harbour a 4 3", 0, "0 1 1 1");
        reasons(ALL + "harbour a 2 0", 0, "1 0 1 1");
        reasons(ALL + "harbour a 0 0", 0, "1 0 0 1");
        reasons(ALL + "harbour a 4 6", 0, "0 1 1 0");
        reasons(STRIP + "harbour a 1 2", 0, "3 1 3 1");
        reasons(ALL + "harbour a 0 3;river 1 3", 0, "1 1 4 1");
        reasons(STRIP + "harbour a 1 2;river 1 1;harbour b 1 3", 0, "3 1 3 1");
        reasons("chart 3 3;land 1 1 1;harbour a 1 1", 0, "3 3 3 3");
    }

    private static void groundReasons() {
        reasons(STRIP + "harbour abcde 1 0", 0, "2 0 2 1");
        reasons(STRIP + "harbour abcdef 1 0", 0, "2 3 2 1");
        reasons(STRIP + "harbour abcdefg 1 0", 0, "2 3 2 1");
        reasons(STRIP + "harbour abcdefgh 1 0", 0, "2 2 2 1");
        reasons(STRIP + "harbour a 1 0", 0, "3 0 3 1");
        reasons(STRIP + "harbour abcd 1 0;river 1 4", 0, "2 4 2 1");
        reasons(STRIP + "harbour abc 1 0;river 1 4", 0, "2 0 2 1");
        reasons(STRIP + "harbour abcdef 1 0;river 1 3", 0, "2 3 2 1");
        reasons(STRIP + "harbour abcdefgh 1 0;river 1 3", 0, "2 2 2 1");
        reasons(STRIP + "harbour abcd 1 0;harbour b 1 4", 0, "2 5 2 1");
        reasons(STRIP + "harbour abc 1 0;harbour b 1 4", 0, "2 0 2 1");
        reasons(STRIP + "harbour abcd 1 0;harbour b 1 2;river 1 4", 0, "2 4 2 1");
        reasons(STRIP + "harbour abcdef 1 0;harbour b 1 2", 0, "2 3 2 1");
        reasons(ALL + "harbour abcd 0 3", 0, "1 1 0 1");
        reasons(ALL + "harbour abcde 0 3", 0, "1 1 2 1");
    }

    private static void otherNames() {
        String two = ALL + "harbour xay 2 0;harbour ba 0 2 ";
        reasons(two + ";place xay right", 1, "1 1 0 1");
        reasons(two + ";place xay right;place ba down", 0, "1 0 1 1");
        reasons(two + ";place xay right;place ba down", 1, "1 1 0 1");
        reasons(two + "red;place xay right", 1, "1 1 6 1");
        reasons(two, 1, "1 1 0 1");
        reasons(two.replace("xay 2 0", "xay 2 0 red") + ";place xay right", 1, "1 1 6 1");
        reasons(two.replace("ba 0 2", "bb 0 2") + ";place xay right", 1, "1 1 6 1");
        reasons(two.replace("ba 0 2", "bb 0 2"), 1, "1 1 0 1");
        reasons(two.replace("ba 0 2", "bb 0 2") + ";place xay right;harbour q 4 2", 1, "1 1 6 1");
        reasons(two.replace("ba 0 2", "bbbb 0 2") + ";place xay right;harbour q 4 2", 1, "1 1 5 1");
        PortolanChart chart = Charts.of(two + ";place xay right");
        reasons(chart, 0, "1 0 1 1");
        for (int harbour : new int[] {-1, 2, Integer.MIN_VALUE, Integer.MAX_VALUE}) {
            Check.noIndex("12 harbour", () -> chart.why(harbour, 0));
            Check.noIndex("12 the harbour is looked at first", () -> chart.why(harbour, 4));
            Check.noIndex("13 harbour", () -> chart.ways(harbour));
            Check.noIndex("14 harbour", () -> chart.room(harbour, 0));
            Check.noIndex("14 the harbour is looked at first", () -> chart.room(harbour, -1));
            Check.noIndex("16 harbour", () -> chart.crossed(harbour));
        }
        for (int direction : new int[] {-1, 4, Integer.MIN_VALUE, Integer.MAX_VALUE}) {
            Check.noArgument("12 direction", () -> chart.why(0, direction));
            Check.noArgument("14 direction", () -> chart.room(0, direction));
        }
    }

    private static void rooms(String text, int harbour, String due) {
        PortolanChart chart = Charts.of(text);
        StringBuilder got = new StringBuilder();
        for (int direction = 0; direction < 4; direction++) {
            got.append(direction == 0 ? "" : " ").append(chart.room(harbour, direction));
        }
        Check.same("14 room", due, got.toString());
    }

    private static void room() {
        rooms(ALL + "harbour a 0 0", 0, "0 6 4 0");
        rooms(ALL + "harbour a 4 2", 0, "4 4 0 2");
        rooms(STRIP + "harbour a 1 1", 0, "0 4 0 1");
        rooms(ALL + "harbour a 0 0;harbour b 0 3;river 3 0", 0, "0 2 2 0");
        rooms(ALL + "harbour a 0 0;place a down;harbour b 0 1;river 4 0;harbour cc 2 0;place cc right", 0, "0 0 1 0");
        rooms("chart 12 3;land 0 1 1;land 1 1 1;land 2 1 1;land 3 1 1;land 4 1 1;land 5 1 1;land 6 1 1;land 7 1 1;"
            + "land 8 1 1;land 9 1 1;land 10 1 1;land 11 1 1;harbour a 0 1", 0, "0 0 11 0");
        rooms("chart 3 12;land 0 0 11;harbour a 0 0;harbour b 0 11", 0, "0 10 0 0");
    }

    private static void crossings() {
        PortolanChart chart = Charts.of(ALL + "harbour xayz 2 0;harbour ba 0 2;harbour by 0 3;harbour yb 4 3;"
            + "harbour q 0 6");
        Check.same("15 none placed", 0, chart.crossings());
        Check.same("16 not placed", 0, chart.crossed(0));
        chart.place(0, 1);
        Check.same("15 one placed", 0, chart.crossings());
        Check.same("16 it crosses nothing", 0, chart.crossed(0));
        chart.place(1, 2);
        chart.place(2, 2);
        Check.same("15 two crossings", 2, chart.crossings());
        Check.same("16 both", 6, chart.crossed(0));
        Check.same("16 one", 1, chart.crossed(1));
        Check.same("16 not placed", 0, chart.crossed(3));
        Check.same("12 b on y", 6, chart.why(3, 0));
        chart.lift(0);
        Check.same("15 lifted", 0, chart.crossings());
        PortolanChart line = Charts.of("chart 3 6;land 1 0 5;harbour aaaa 1 0;harbour aa 1 5;place aaaa right;"
            + "place aa left");
        Check.same("15 a pair counts once", 1, line.crossings());
        Check.same("16 two cells, one name", 2, line.crossed(0));
        PortolanChart three = Charts.of("chart 3 3;land 0 0 2;land 1 0 2;land 2 0 2;harbour a 1 0;harbour ba 0 1;"
            + "harbour aaa 2 1;place a right");
        Check.same("12 b in the middle", 5, three.why(1, 2));
        PortolanChart star = Charts.of(ALL + "harbour xxxa 2 0;harbour xa 2 6;harbour ya 0 4;harbour ua 4 4;"
            + "place xxxa right;place xa left;place ya down;place ua up");
        Check.same("15 four names in one cell", 6, star.crossings());
        Check.same("16 three", 14, star.crossed(0));
        Check.same("7 all in one cell", 15, star.cell(18, 4));
    }

    private static void free() {
        PortolanChart chart = Charts.of(ALL + "harbour xay 2 0;harbour ba 0 2");
        Check.same("17 all but the harbours", 33, chart.free());
        chart.place(0, 1);
        Check.same("17 without letters", 30, chart.free());
        chart.place(1, 2);
        Check.same("17 a crossing is one cell", 29, chart.free());
        chart.addRiver(34);
        Check.same("17 without the river", 28, chart.free());
        Check.same("17 the sea has none", 0, new PortolanChart().free());
    }
}
