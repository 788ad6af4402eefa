/** Promises 29 to 33, 38 and 39: rivers as they would be, and as they come and go. */
public final class RiverTest {
    // all land, 5 rows and 5 columns: the cell 12 is in the middle
    private static final String ALL = "chart 5 5;land 0 0 4;land 1 0 4;land 2 0 4;land 3 0 4;land 4 0 4";
    private static final String WIDE = "chart 5 12;land 0 0 11;land 1 0 11;land 2 0 11;land 3 0 11;land 4 0 11";

    public static void main(String[] args) {
        ways();
        lettersInTheWay();
        longOrDear();
        noWay();
        mildest();
        drowns();
        addRiver();
        dropRiver();
        Check.end();
    }

    private static void way(PortolanChart chart, int cell, String due, int washed) {
        String before = Charts.state(chart);
        Check.same("30 the way", due, Charts.way(chart, cell).toString());
        Check.same("29 its length", due.split(",").length, chart.wayLength(cell));
        Check.same("31 washes", washed, chart.washes(cell));
        Check.same("predictions change nothing", before, Charts.state(chart));
    }

    private static void ways() {
        PortolanChart chart = Charts.of(ALL);
        way(chart, 12, "[12, 7, 2]", 0);
        way(chart, 6, "[6, 1]", 0);
        way(chart, 18, "[18, 19]", 0);
        way(chart, 17, "[17, 22]", 0);
        way(chart, 11, "[11, 10]", 0);
        way(chart, 0, "[0]", 0);
        way(chart, 24, "[24]", 0);
        way(Charts.of(ALL + ";harbour a 0 2"), 12, "[12, 13, 14]", 0);
        way(Charts.of(ALL + ";harbour a 0 2;harbour b 2 4"), 12, "[12, 17, 22]", 0);
        way(Charts.of(ALL + ";harbour a 0 2;harbour b 2 4;harbour c 4 2"), 12, "[12, 11, 10]", 0);
        way(Charts.of(ALL + ";harbour a 0 2;harbour b 2 4;harbour c 4 2;harbour d 2 0"), 12, "[12, 7, 8, 3]", 0);
        PortolanChart beside = Charts.of(ALL + ";river 2 2");
        way(beside, 13, "[13]", 0);
        way(beside, 17, "[17]", 0);
        way(beside, 18, "[18, 13]", 0);
        way(beside, 16, "[16, 11]", 0);
        PortolanChart lake = Charts.of("chart 7 7;land 0 0 6;land 1 0 6;land 2 0 6;land 3 0 6;land 4 0 6;land 5 0 6;"
            + "land 6 0 6");
        way(lake, 24, "[24, 17, 10, 3]", 0);
        lake.erode(31);
        way(lake, 24, "[24]", 0);
        way(lake, 17, "[17, 24]", 0);
        PortolanChart eight = Charts.of(ALL + ";river 0 0;river 0 2;river 0 4;river 2 0;river 2 4;river 4 0;river 4 2;"
            + "river 4 4");
        way(eight, 12, "[12, 7]", 0);
        for (int index : new int[] {-1, 3, 144, Integer.MIN_VALUE, Integer.MAX_VALUE}) {
            Check.same("30 no such place", -1, chart.wayCell(12, index));
        }
        for (int cell : new int[] {-1, 25, 144, Integer.MIN_VALUE, Integer.MAX_VALUE}) {
            Check.noIndex("29 cell", () -> chart.wayLength(cell));
            Check.noIndex("30 cell", () -> chart.wayCell(cell, 0));
            Check.noIndex("31 cell", () -> chart.washes(cell));
            Check.noIndex("33 cell", () -> chart.drowns(cell));
            Check.noIndex("38 cell", () -> chart.addRiver(cell));
        }
    }

    private static void lettersInTheWay() {
        way(Charts.of(ALL + ";harbour xx 1 0;place xx right"), 12, "[12, 13, 14]", 0);
        way(Charts.of(ALL + ";harbour xx 2 0;place xx right"), 12, "[12, 7, 2]", 1);
        way(Charts.of(ALL + ";harbour xxx 0 0;place xxx right"), 12, "[12, 13, 14]", 0);
        way(Charts.of(ALL + ";harbour xxx 0 0;place xxx right"), 2, "[2]", 1);
        way(Charts.of(ALL + ";harbour xx 2 0;harbour yx 0 2;place xx right;place yx down"), 12, "[12, 13, 14]", 3);
        String rows = WIDE + ";harbour aaaaaaaa 1 0;harbour bbbbbbbb 3 0;harbour c 2 0;place aaaaaaaa right;"
            + "place bbbbbbbb right";
        way(Charts.of(rows), 26, "[26, 27, 28, 29, 30, 31, 32, 33, 21, 9]", 0);
        way(Charts.of(rows), 25, "[25, 26, 27, 28, 29, 30, 31, 32, 33, 21, 9]", 0);
        way(Charts.of(rows + ";harbour d 0 9;harbour e 4 9"), 25, "[25, 26, 27, 28, 29, 30, 31, 32, 33, 34, 35]", 0);
        String same = WIDE + ";harbour aaaaaaaa 1 0;harbour bbbbbbbb 3 0;harbour c 2 0;harbour d 0 9;harbour e 4 9;"
            + "harbour f 2 11;place aaaaaaaa right;place bbbbbbbb right";
        way(Charts.of(same), 26, "[26, 27, 28, 29, 30, 31, 32, 33, 21, 22, 10]", 0);
        way(Charts.of(same), 25, "[25, 26, 27, 28, 29, 30, 31, 32, 33, 21, 22, 10]", 0);
        way(Charts.of(same + ";harbour g 0 10;harbour h 4 10"), 25, "[25, 26, 27, 28, 29, 30, 31, 32, 33, 21, 22, 23]",
            0);
        way(Charts.of(same.replace("harbour c 2 0;", "harbour c 0 1;")), 24, "[24]", 0);
    }

    /** Twelve cells without letters are as dear as one and one with letters: the first direction decides. */
    private static void longOrDear() {
        StringBuilder text = new StringBuilder("chart 12 5");
        for (int row = 0; row < 12; row++) {
            text.append(";land ").append(row).append(" 0 4");
        }
        text.append(";harbour bbaaaaaa 0 0;harbour ccaaaaaa 11 0;harbour ddaaaaaa 0 4;harbour eeaaaaaa 11 4;"
            + "place bbaaaaaa down;place ccaaaaaa up;place ddaaaaaa down;place eeaaaaaa up;"
            + "harbour f 0 1;harbour g 0 2;harbour h 0 3;harbour i 11 ");
        way(Charts.of(text + "1"), 6, "[6, 7, 12, 17, 22, 27, 32, 37, 42, 47, 52, 57]", 0);
        way(Charts.of(text + "3"), 8, "[8, 9]", 4);
        way(Charts.of(text + "3"), 6, "[6, 11, 16, 21, 26, 31, 36, 41, 46, 51, 56]", 0);
        way(Charts.of(text + "3"), 9, "[9]", 4);
        way(Charts.of(text + "3"), 24, "[24]", 12);
    }

    private static void no(PortolanChart chart, int cell) {
        Check.same("29 no way", -3, chart.wayLength(cell));
        Check.same("30 no way", -1, chart.wayCell(cell, 0));
        Check.same("31 no way", 0, chart.washes(cell));
        Check.same("38 no way", -3, chart.addRiver(cell));
    }

    private static void noWay() {
        PortolanChart chart = Charts.of("chart 4 4;land 0 0 2;land 1 0 2;land 2 0 2;harbour a 0 1;harbour b 1 0;"
            + "harbour c 1 2;harbour d 2 1;river 0 0");
        no(chart, 3);
        no(chart, 1);
        no(chart, 0);
        no(chart, 5);
        Check.same("29 elsewhere", 1, chart.wayLength(8));
        Check.same("38 nothing came", 0, chart.size(11));
        chart.wayLength(8);
        Check.same("30 not the way that was looked for before", -1, chart.wayCell(3, 0));
    }

    private static void mildest() {
        Check.same("32 the middle", 12, Charts.of(ALL).mildest());
        Check.same("32 the fewest names first", 6, Charts.of(ALL + ";harbour ab 2 0;place ab right").mildest());
        Check.same("32 no land", -1, new PortolanChart().mildest());
        Check.same("32 harbours alone", -1, Charts.of("chart 3 3;land 1 1 1;harbour a 1 1").mildest());
        Check.same("32 a river alone", -1, Charts.of("chart 3 3;land 1 1 1;river 1 1").mildest());
        Check.same("32 a cell without a way", -1, Charts.of("chart 3 3;land 0 1 1;land 1 0 2;land 2 1 1;harbour a 0 1;"
            + "harbour b 1 0;harbour c 1 2;harbour d 2 1").mildest());
        Check.same("32 all wash names away", 4,
            Charts.of("chart 3 3;land 1 0 2;harbour ab 1 0;place ab right").mildest());
        Check.same("32 also with eight rivers", 16, Charts.of(ALL.replace("chart 5 5", "chart 7 7") + ";land 6 0 6;"
            + "river 6 0;river 6 1;river 6 2;river 6 3;river 6 4;river 6 5;river 6 6;river 0 0").mildest());
        Check.same("32 beside a river a way ends", 8, Charts.of("chart 7 7;land 0 0 6;land 1 0 6;land 2 0 6;"
            + "land 3 0 6;land 4 0 6;land 5 0 6;land 6 0 6;river 3 3").mildest());
    }

    private static void drowns() {
        PortolanChart chart = Charts.of(ALL + ";harbour ab 2 0;harbour xb 0 2;place ab right;place xb down");
        Check.same("33 two", 3, chart.drowns(12));
        Check.same("33 one", 1, chart.drowns(11));
        Check.same("33 the other one", 2, chart.drowns(7));
        Check.same("33 none", 0, chart.drowns(13));
        Check.same("33 a harbour", 0, chart.drowns(10));
        Check.same("33 sea", 0, new PortolanChart().drowns(0));
    }

    private static void addRiver() {
        PortolanChart chart = Charts.of(ALL + ";harbour ab 2 0;harbour xb 0 2;harbour q 4 0;place ab right;"
            + "place xb down;place q right");
        Check.same("38 the first river", 0, chart.addRiver(12));
        Check.same("38 as it was told", "[12, 13, 14]", Charts.river(chart, 0).toString());
        Check.same("38 two names are washed away", "-1 -1 1",
            chart.harbour(0, 2) + " " + chart.harbour(1, 2) + " " + chart.harbour(2, 2));
        Check.same("38 beside it", 1, chart.addRiver(7));
        Check.same("38 one cell", "[7]", Charts.river(chart, 1).toString());
        Check.same("38 on a river", -3, chart.addRiver(12));
        Check.same("38 in a harbour", -3, chart.addRiver(10));
        Check.same("38 two actions", 2, chart.size(11));
        Check.same("38 takes the last letter away", 2, chart.addRiver(21));
        Check.same("38 it is gone", 0, chart.size(5));
        for (int cell : new int[] {0, 1, 3, 4, 5}) {
            chart.addRiver(cell);
        }
        Check.same("38 eight rivers", 8, chart.size(4));
        Check.same("38 a ninth one", -2, chart.addRiver(24));
        Check.same("38 full comes first", -2, chart.addRiver(10));
        Check.same("29 a way all the same", 1, chart.wayLength(24));
        Check.same("38 it stays full", 8, chart.size(4));
        PortolanChart stays = Charts.of(ALL + ";river 2 2");
        stays.erode(11);
        stays.erode(13);
        stays.erode(17);
        Check.same("38 a river stays as it is", "[12, 7, 2]", Charts.river(stays, 0).toString());
    }

    private static void dropRiver() {
        PortolanChart chart = Charts.of(ALL + ";river 2 2;river 4 4;river 3 1");
        Check.same("39 three rivers", "[12, 7, 2] [24] [16, 11]", Charts.river(chart, 0) + " "
            + Charts.river(chart, 1) + " " + Charts.river(chart, 2));
        Check.same("39 how many cells", 1, chart.dropRiver(1));
        Check.same("39 the one behind", "[16, 11]", Charts.river(chart, 1).toString());
        Check.same("39 the one ahead", "[12, 7, 2]", Charts.river(chart, 0).toString());
        Check.same("39 no river there", "1 -1", chart.cell(24, 0) + " " + chart.cell(24, 2));
        Check.same("39 its number in the cell", 1, chart.cell(11, 2));
        Check.same("39 three cells", 3, chart.dropRiver(0));
        Check.same("39 one is left", 1, chart.size(4));
        Check.same("39 the land stays", 25, chart.size(2));
        Check.same("39 the next one comes behind", 1, chart.addRiver(24));
        for (int river : new int[] {-1, 2, 8, Integer.MIN_VALUE, Integer.MAX_VALUE}) {
            Check.noIndex("39 river", () -> chart.dropRiver(river));
        }
        Check.same("39 two actions and one", 3, chart.size(11));
    }
}
