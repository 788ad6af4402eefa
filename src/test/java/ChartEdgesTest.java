/** Section 1, promises 1, 6 to 11, 17 and 46 to 49: the smallest, the largest, the empty and the full chart. */
public final class ChartEdgesTest {
    private static final String LAST_NAME = "chart 12 12;land 11 3 11;harbour abcdefgh 11 3;place abcdefgh right";
    private static final String FIRST_NAME = "chart 12 12;land 0 0 8;harbour abcdefgh 0 8;place abcdefgh left";
    private static final int[] FAR = {Integer.MIN_VALUE, -144, -1};

    public static void main(String[] args) {
        newObject();
        cellNumbers();
        coast();
        landOfRiversAndHarbours();
        sizes();
        lettersInTheLastCell();
        lettersInTheFirstCell();
        riverInTheLastCell();
        seaInTheLastCell();
        riverInTheFirstCell();
        depth();
        eightHarbours();
        sixteenStops();
        names();
        free();
        cover();
        meanTurn();
        rows();
        output();
        exceptions();
        Check.end();
    }

    private static String numbers(PortolanChart chart, int cell) {
        StringBuilder text = new StringBuilder();
        for (int what = 0; what < 6; what++) {
            text.append(what == 0 ? "" : " ").append(chart.cell(cell, what));
        }
        return text.toString();
    }

    private static void newObject() {
        PortolanChart chart = new PortolanChart();
        PortolanChart loaded = Charts.of("chart 3 3");
        Check.same("1 as by the text chart 3 3", Charts.state(loaded), Charts.state(chart));
        chart = new PortolanChart();
        Check.same("1 an empty output", -1, chart.outputByte(0));
        Check.same("1 an empty input buffer", 0, chart.append(0));
        Check.same("1 no snapshot", -1, chart.restoreSnapshot(0));
        Check.same("1 no snapshot in the other slot", -1, chart.restoreSnapshot(1));
        Check.same("1 nothing to take back", -1, chart.undo());
        Check.same("1 none of what is found", "-1 -1 0 0 0 0 0 -1", chart.hardest() + " " + chart.mildest() + " "
            + chart.bestTurn() + " " + chart.shy() + " " + chart.least() + " " + chart.placedThen() + " "
            + chart.crossings() + " " + chart.voyage(0));
        PortolanChart other = new PortolanChart();
        other.raise(0);
        Check.same("1 each object has a chart of its own", 0, chart.size(2));
    }

    private static void cellNumbers() {
        PortolanChart tall = Charts.of("chart 5 3;land 3 1 1");
        Check.same("s1 3 * 3 + 1", 1, tall.cell(10, 0));
        Check.same("s1 one cell alone", 1, tall.size(2));
        PortolanChart wide = Charts.of("chart 3 5;land 1 3 3");
        Check.same("s1 5 * 1 + 3", 1, wide.cell(8, 0));
        Check.same("s1 one cell alone", 1, wide.size(2));
        Check.same("7 the last cell of 3 rows and 5 columns", 0, wide.cell(14, 0));
        Check.noIndex("7 the cell behind it", () -> wide.cell(15, 0));
        PortolanChart large = Charts.of("chart 12 12");
        Check.same("7 the last cell of 12 rows and 12 columns", 0, large.cell(143, 0));
        Check.noIndex("7 the cell behind it", () -> large.cell(144, 0));
        Charts.load(large, "chart 3 3");
        Check.same("7 the last cell of 3 rows and 3 columns", 0, large.cell(8, 0));
        Check.noIndex("7 a cell of the chart before", () -> large.cell(9, 0));
        Check.noIndex("7 the last cell of the chart before", () -> large.cell(143, 0));
    }

    /** A river of one cell begins at the coast alone, and the depth is 1 there. */
    private static void coast() {
        PortolanChart chart = Charts.of(Charts.allLand(3, 4));
        for (int cell = 0; cell < 12; cell++) {
            boolean inner = cell == 5 || cell == 6;
            Check.same("s1 what is beyond the rim counts as sea", inner ? 2 : 1, chart.cell(cell, 5));
            Check.same("s1 at the coast", inner ? 2 : 1, chart.wayLength(cell));
        }
        for (int beside : new int[] {7, 11, 17, 13}) {
            PortolanChart lake = Charts.of(Charts.allLand(5, 5));
            Check.same("s1 not at the coast", 3, lake.wayLength(12));
            lake.erode(beside);
            Check.same("s1 one of the four beside it is sea", 1, lake.wayLength(12));
            Check.same("7 its depth then", 1, lake.cell(12, 5));
        }
        for (int beyond : new int[] {6, 8, 16, 18}) {
            PortolanChart lake = Charts.of(Charts.allLand(5, 5));
            lake.erode(beyond);
            Check.same("s1 a corner is not beside it", 2, lake.wayLength(12));
            Check.same("7 two steps", 2, lake.cell(12, 5));
        }
        Check.same("s1 a harbour alone in the sea is at the coast", 1,
            Charts.of("chart 3 3;land 1 1 1;harbour a 1 1").cell(4, 5));
    }

    private static void landOfRiversAndHarbours() {
        PortolanChart chart = Charts.of("chart 3 3;land 0 0 1;harbour a 0 0;river 0 1");
        Check.same("s1 that of a river or a harbour is land, too", 2, chart.size(2));
        Check.same("7 a harbour is land without a river", 1, chart.cell(0, 0));
        Check.same("7 a river", 2, chart.cell(1, 0));
        chart.dropRiver(0);
        Check.same("7 it stays land", 1, chart.cell(1, 0));
        Check.same("6 it counts as before", 2, chart.size(2));
    }

    private static void sizes() {
        Check.same("6 all land", 144, Charts.of(Charts.allLand(12, 12)).size(2));
        PortolanChart chart = new PortolanChart();
        Check.same("6 all sea", 0, chart.size(2));
        for (int i = 0; i < 250; i++) {
            chart.turnPage(2);
            chart.turnPage(0);
        }
        Check.same("6 quarter turns of 500 calls", 1000, chart.size(10));
        Check.same("6 eight of them can be taken back", 8, chart.size(11));
        for (int what : new int[] {Integer.MIN_VALUE, -1, 12, 13, Integer.MAX_VALUE}) {
            Check.noArgument("6 what is out of range", () -> chart.size(what));
        }
    }

    private static void lettersInTheLastCell() {
        PortolanChart chart = Charts.of(LAST_NAME);
        String lettered = "1 -1 -1 104 1 1";
        String bare = "1 -1 -1 -1 0 1";
        Check.same("7 the last cell has the last letter", lettered, numbers(chart, 143));
        Check.same("33 it drowns", 1, chart.drowns(143));
        Check.same("31 a river washes it", 1, chart.washes(143));
        Check.same("48 its row", "~~~@abcdefgh", Charts.row(chart, 11));
        Check.same("17 no free cell", 0, chart.free());
        Check.sameNumber("47 eight of nine", 8.0f / 9.0f, chart.cover());
        chart.lift(0);
        Check.same("35 lifted", bare, numbers(chart, 143));
        Check.same("17 eight free cells", 8, chart.free());
        chart.undo();
        Check.same("50 it is there again", lettered, numbers(chart, 143));
        chart.saveSnapshot(0);
        Check.same("40 eroding the last cell", 1, chart.erode(143));
        Check.same("40 sea", "0 -1 -1 -1 0 0", numbers(chart, 143));
        Check.same("41 raising it", 0, chart.raise(143));
        Check.same("41 land", bare, numbers(chart, 143));
        chart.restoreSnapshot(0);
        Check.same("52 it is there again", lettered, numbers(chart, 143));
        Charts.load(chart, "chart 12 12;land 11 11 11");
        Check.same("3 nothing is left of it", bare, numbers(chart, 143));
        Charts.load(chart, "chart 12 12");
        Check.same("3 nor of the land", "0 -1 -1 -1 0 0", numbers(chart, 143));
    }

    private static void lettersInTheFirstCell() {
        PortolanChart chart = Charts.of(FIRST_NAME);
        String lettered = "1 -1 -1 104 1 1";
        Check.same("7 the first cell has the last letter", lettered, numbers(chart, 0));
        Check.same("33 it drowns", 1, chart.drowns(0));
        Check.same("31 a river washes it", 1, chart.washes(0));
        Check.same("48 its row", "hgfedcba@~~~", Charts.row(chart, 0));
        Check.sameNumber("47 eight of nine", 8.0f / 9.0f, chart.cover());
        Check.same("38 a river washes it away", 0, chart.addRiver(0));
        Check.same("38 the river", "2 -1 0 -1 0 1", numbers(chart, 0));
        chart.undo();
        Check.same("50 it is there again", lettered, numbers(chart, 0));
        Check.same("40 eroding the first cell", 1, chart.erode(0));
        Check.same("40 sea", "0 -1 -1 -1 0 0", numbers(chart, 0));
    }

    private static void riverInTheLastCell() {
        PortolanChart chart = Charts.of("chart 12 12;land 11 11 11");
        Check.same("29 the last cell", 1, chart.wayLength(143));
        Check.same("30 the last cell", 143, chart.wayCell(143, 0));
        Check.same("32 the last cell", 143, chart.mildest());
        Check.same("38 the last cell", 0, chart.addRiver(143));
        Check.same("7 a river", "2 -1 0 -1 0 1", numbers(chart, 143));
        Check.same("10 the last cell", "143 -1", chart.river(0, 0) + " " + chart.river(0, 1));
        Check.same("48 a river", "~~~~~~~~~~~=", Charts.row(chart, 11));
        chart.saveSnapshot(1);
        Check.same("39 one cell", 1, chart.dropRiver(0));
        Check.same("7 no river any more", "1 -1 -1 -1 0 1", numbers(chart, 143));
        chart.undo();
        Check.same("50 it is there again", 143, chart.river(0, 0));
        Charts.load(chart, "chart 12 12;land 11 11 11");
        Check.same("3 no river any more", "1 -1 -1 -1 0 1", numbers(chart, 143));
        chart.restoreSnapshot(1);
        Check.same("52 it is there again", 143, chart.river(0, 0));
    }

    private static void seaInTheLastCell() {
        PortolanChart chart = Charts.of("chart 12 12;land 0 0 0");
        Check.same("29 no river begins in the sea", -3, chart.wayLength(143));
        Check.same("30 nor has cells", -1, chart.wayCell(143, 0));
        Check.same("38 nor comes", -3, chart.addRiver(143));
        Check.same("40 WRONG for sea", -3, chart.erode(143));
        Check.same("41 raised", 0, chart.raise(143));
        Check.same("29 now one could", 1, chart.wayLength(143));
        Check.same("40 eroded", 0, chart.erode(143));
        Check.same("29 now none can", -3, chart.wayLength(143));
        Check.same("32 the only cell of land", 0, chart.mildest());
    }

    private static void riverInTheFirstCell() {
        PortolanChart chart = Charts.of("chart 3 3;land 0 0 0;river 0 0");
        Check.same("10 the first cell", "0 -1", chart.river(0, 0) + " " + chart.river(0, 1));
        Check.same("7 a river", "2 -1 0 -1 0 1", numbers(chart, 0));
        Check.same("39 one cell", 1, chart.dropRiver(0));
        Check.same("7 no river any more", "1 -1 -1 -1 0 1", numbers(chart, 0));
        Check.same("32 the first cell", 0, chart.mildest());
        PortolanChart two = Charts.of("chart 3 3;land 0 0 0;land 2 2 2;river 2 2;river 0 0");
        Check.same("39 the one ahead", 1, two.dropRiver(0));
        Check.same("39 the number of the one behind becomes one less", 0, two.cell(0, 2));
        Check.same("10 by its new number", 0, two.river(0, 0));
    }

    private static void depth() {
        PortolanChart chart = Charts.of(Charts.allLand(12, 12));
        for (int cell = 0; cell < 144; cell++) {
            int row = cell / 12;
            int column = cell % 12;
            int due = Math.min(Math.min(row, 11 - row), Math.min(column, 11 - column)) + 1;
            Check.same("7 steps to beyond the rim", due, chart.cell(cell, 5));
        }
        chart.erode(65);
        Check.same("7 0 for sea", 0, chart.cell(65, 5));
        for (int cell = 0; cell < 144; cell++) {
            int row = cell / 12;
            int column = cell % 12;
            int rim = Math.min(Math.min(row, 11 - row), Math.min(column, 11 - column)) + 1;
            int due = Math.min(rim, Math.abs(row - 5) + Math.abs(column - 5));
            Check.same("7 the least number of steps", due, chart.cell(cell, 5));
        }
        PortolanChart over = Charts.of(Charts.allLand(5, 5) + ";harbour ab 0 2;harbour c 2 0;river 2 4;place ab down");
        Check.same("7 steps over letters, rivers and harbours", 3, over.cell(12, 5));
        Check.same("7 a harbour at the coast", 1, over.cell(10, 5));
    }

    private static String eight(String name) {
        StringBuilder text = new StringBuilder("chart 3 12;land 0 0 11;land 1 0 11;land 2 0 11");
        for (int i = 0; i < 8; i++) {
            text.append(";harbour ").append(i == 7 ? name : "" + (char) ('a' + i)).append(" 0 ").append(i + 2);
        }
        return text.toString();
    }

    private static void eightHarbours() {
        PortolanChart chart = Charts.of(eight("zx") + ";voyage zx");
        Check.same("8 the last of eight", "9 0 -1 2 1", chart.harbour(7, 0) + " " + chart.harbour(7, 1) + " "
            + chart.harbour(7, 2) + " " + chart.harbour(7, 3) + " " + chart.harbour(7, 4));
        Check.same("7 in its cell", 7, chart.cell(9, 1));
        Check.same("9 its letters", "122 120 -1",
            chart.letter(7, 0) + " " + chart.letter(7, 1) + " " + chart.letter(7, 2));
        Check.noIndex("8 a ninth one", () -> chart.harbour(8, 0));
        Check.noIndex("9 a ninth one", () -> chart.letter(8, 0));
        Check.same("13 its ways", 4, chart.ways(7));
        Check.same("34 it is placed", -1, chart.place(7, 2));
        Check.same("7 2 to the power of 7", 128, chart.cell(33, 4));
        Check.same("33 2 to the power of 7", 128, chart.drowns(21));
        Check.same("18 2 to the power of 7", 128, chart.upright(1));
        Check.same("31 2 to the power of 7", 128, chart.washes(33));
        Check.same("36 all eight", 8, chart.arrange());
        Check.same("18 the sum of all", 255, chart.upright(1));
        Check.same("28 the sum of all", 255, chart.shy());
        Check.same("6 eight names", 8, chart.size(5));
        Check.same("37 the last one becomes red", false, chart.setRed(7, true));
        Check.same("6 one red name", 1, chart.size(6));
        Check.same("48 its letters alone are capitals", "..abcdefgZ..", Charts.row(chart, 1));
        Check.same("48 the last letter, too", ".........X..", Charts.row(chart, 2));
    }

    private static void sixteenStops() {
        PortolanChart chart = Charts.of("chart 3 4;land 0 0 3;harbour a 0 0;harbour b 0 3;voyage" + " a".repeat(15)
            + " b");
        Check.same("11 the last of sixteen", 1, chart.voyage(15));
        Check.same("11 none behind it", -1, chart.voyage(16));
        Check.same("8 how often", "15 1", chart.harbour(0, 4) + " " + chart.harbour(1, 4));
        chart.saveSnapshot(0);
        Check.same("43 the last of sixteen", 1, chart.cut(15));
        Check.same("11 none there", -1, chart.voyage(15));
        Check.same("50 taken back", 0, chart.undo());
        Check.same("50 the last of sixteen", 1, chart.voyage(15));
        Check.same("43 the first of sixteen", 0, chart.cut(0));
        Check.same("43 the others move up", 1, chart.voyage(14));
        Check.same("43 fifteen", -1, chart.voyage(15));
        Check.same("42 sixteen again", 16, chart.sail(0));
        Check.same("42 behind the others", "1 0", chart.voyage(14) + " " + chart.voyage(15));
        chart.restoreSnapshot(0);
        Check.same("52 the last of sixteen", 1, chart.voyage(15));
        chart.place(0, 1);
        chart.place(1, 3);
        Check.same("19 also to the last of sixteen", 2, chart.turning());
        Check.same("22 the last of sixteen", 15, chart.hardest());
        for (int i = 0; i < 16; i++) {
            Check.same("6 the place", i, chart.size(9));
            Check.same("45 each of sixteen", i == 15 ? 1 : 0, chart.read());
        }
        Check.same("45 0 behind the last", 0, chart.size(9));
    }

    private static void names() {
        PortolanChart chart = Charts.of("chart 3 12;land 0 0 11;land 1 0 11;harbour abcdefgh 0 0;harbour z 0 11");
        for (int i = 0; i < 8; i++) {
            Check.same("9 the letters", 'a' + i, chart.letter(0, i));
        }
        Check.same("9 none behind the eighth", -1, chart.letter(0, 8));
        Check.same("9 one letter", 'z', chart.letter(1, 0));
        Check.same("9 none behind it", -1, chart.letter(1, 1));
        for (int index : new int[] {Integer.MIN_VALUE, -1, 9, 64, Integer.MAX_VALUE}) {
            Check.same("9 no such letter", -1, chart.letter(0, index));
            Check.same("9 no such letter", -1, chart.letter(1, index));
            Check.same("11 no such place", -1, chart.voyage(index));
        }
    }

    private static void free() {
        Check.same("17 no land", 0, new PortolanChart().free());
        Check.same("17 all land", 144, Charts.of(Charts.allLand(12, 12)).free());
        Check.same("17 the first cell", 1, Charts.of("chart 12 12;land 0 0 0").free());
        Check.same("17 the last cell", 1, Charts.of("chart 12 12;land 11 11 11").free());
        Check.same("17 a river", 0, Charts.of("chart 3 3;land 0 0 0;river 0 0").free());
        Check.same("17 a harbour", 0, Charts.of("chart 3 3;land 0 0 0;harbour a 0 0").free());
        Check.same("17 a letter", 1, Charts.of("chart 3 3;land 0 0 2;harbour a 0 0;place a right").free());
        Check.same("17 a name that is not placed", 2, Charts.of("chart 3 3;land 0 0 2;harbour a 0 0").free());
    }

    private static void cover() {
        Check.sameNumber("47 0.0f without land", 0.0f, new PortolanChart().cover());
        Check.sameNumber("47 land without letters", 0.0f, Charts.of(Charts.allLand(3, 3)).cover());
        PortolanChart chart = Charts.of("chart 3 3;land 0 0 1;harbour a 0 0;place a right");
        Check.sameNumber("47 one of two", 0.5f, chart.cover());
        chart.raise(8);
        Check.sameNumber("47 as a float", (float) 1 / (float) 3, chart.cover());
        Check.same("47 not as a double", false, (double) chart.cover() == 1.0 / 3.0);
    }

    private static void meanTurn() {
        Check.sameNumber("46 0.0 without any", 0.0, new PortolanChart().meanTurn());
        String text = "chart 3 4;land 0 0 3;harbour a 0 0;harbour b 0 3;";
        Check.sameNumber("46 none placed", 0.0, Charts.of(text + "voyage a b;turn 2").meanTurn());
        Check.sameNumber("46 placed, but no voyage", 0.0, Charts.of(text + "place a right;turn 2").meanTurn());
        Check.sameNumber("46 one of two placed", 2.0, Charts.of(text + "place a right;voyage b a;turn 2").meanTurn());
        Check.sameNumber("46 each as often as it is in it", 2.0 / 3.0,
            Charts.of(text + "place a right;voyage a b a a;turn 2").meanTurn());
        Check.sameNumber("46 no turning", 0.0, Charts.of(text + "place a right;voyage a").meanTurn());
        Check.sameNumber("46 both", 1.0, Charts.of(text + "place a right;place b left;voyage a b").meanTurn());
    }

    private static void rows() {
        PortolanChart tall = Charts.of("chart 12 3;land 3 0 2;land 11 0 1;harbour a 11 0");
        Check.same("48 more rows than columns", "...", Charts.row(tall, 3));
        Check.same("48 the last row", "@.~", Charts.row(tall, 11));
        Check.same("48 its length", 3, tall.writeRow(11));
        Check.noIndex("48 behind the last row", () -> tall.writeRow(12));
        PortolanChart wide = Charts.of("chart 3 12;land 2 0 11");
        Check.same("48 twelve cells", "............", Charts.row(wide, 2));
        Check.same("48 its length", 12, wide.writeRow(2));
        Check.noIndex("48 behind the last row", () -> wide.writeRow(3));
        Check.noIndex("48 ahead of the first row", () -> wide.writeRow(-1));
        PortolanChart ends = Charts.of("chart 3 5;land 1 0 4;harbour az 1 0 red;harbour za 1 4;place az right");
        Check.same("48 A and Z", "@AZ.@", Charts.row(ends, 1));
        ends.lift(0);
        ends.place(1, 3);
        Check.same("48 a and z", "@.az@", Charts.row(ends, 1));
        ends.setRed(0, false);
        ends.place(0, 1);
        Check.same("34 no place for both", "@.az@", Charts.row(ends, 1));
    }

    private static void output() {
        PortolanChart chart = Charts.of("chart 3 12;land 1 0 11");
        chart.writeRow(1);
        Check.same("49 the first byte", 46, chart.outputByte(0));
        Check.same("49 the twelfth byte", 46, chart.outputByte(11));
        Check.same("49 none behind it", -1, chart.outputByte(12));
        Check.noIndex("48 no such row", () -> chart.writeRow(3));
        Check.same("48 an exception changes nothing", 46, chart.outputByte(11));
        chart.writeRow(0);
        Check.same("48 in place of what it had", 126, chart.outputByte(0));
        Charts.load(chart, "chart 3 3");
        Check.same("3 the output stays", 126, chart.outputByte(11));
        chart.writeRow(0);
        Check.same("48 a shorter row leaves nothing", -1, chart.outputByte(3));
        for (int index : new int[] {Integer.MIN_VALUE, -1, 3, 11, 12, 500, Integer.MAX_VALUE}) {
            Check.same("49 none there", -1, chart.outputByte(index));
        }
    }

    private static void exceptions() {
        PortolanChart chart = Charts.of("chart 3 3;land 0 0 2;harbour a 0 0;river 0 2");
        for (int number : FAR) {
            Check.noIndex("7 no such cell", () -> chart.cell(number, 0));
            Check.noIndex("7 the cell is named first", () -> chart.cell(number, 6));
            Check.noArgument("7 what", () -> chart.cell(0, number));
            Check.noIndex("8 no such harbour", () -> chart.harbour(number, 0));
            Check.noIndex("8 the harbour is named first", () -> chart.harbour(number, 5));
            Check.noArgument("8 what", () -> chart.harbour(0, number));
            Check.noIndex("9 no such harbour", () -> chart.letter(number, 0));
            Check.noIndex("10 no such river", () -> chart.river(number, 0));
            Check.same("10 no such place", -1, chart.river(0, number));
            Check.noArgument("6 what", () -> chart.size(number));
            Check.noIndex("48 no such row", () -> chart.writeRow(number));
        }
        Check.noIndex("7 no such cell", () -> chart.cell(9, 0));
        Check.noIndex("7 the cell is named first", () -> chart.cell(9, 6));
        Check.noArgument("7 what", () -> chart.cell(8, 6));
        Check.noIndex("8 no such harbour", () -> chart.harbour(1, 0));
        Check.noIndex("8 the harbour is named first", () -> chart.harbour(1, 5));
        Check.noArgument("8 what", () -> chart.harbour(0, 5));
        Check.noIndex("9 no such harbour", () -> chart.letter(1, 0));
        Check.noIndex("10 no such river", () -> chart.river(1, 0));
        Check.same("10 behind the last cell", -1, chart.river(0, 1));
        Check.noIndex("10 no river at all", () -> new PortolanChart().river(0, 0));
        Check.noIndex("8 no harbour at all", () -> new PortolanChart().harbour(0, 0));
    }
}
