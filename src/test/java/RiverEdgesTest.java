/** Section 2 on rivers, promises 10, 29 to 33, 38 and 39: each sentence that names a boundary. */
public final class RiverEdgesTest {
    private static final String ALL = Charts.allLand(5, 5) + ";";
    /** The cell 4 is shut in by four harbours. */
    private static final String SHUT = Charts.allLand(3, 3)
        + ";harbour a 0 1;harbour b 1 0;harbour c 1 2;harbour d 2 1;";
    private static final int[] BAD = {Integer.MIN_VALUE, -1, 25, 144, Integer.MAX_VALUE};

    public static void main(String[] args) {
        whereARiverCanBegin();
        endsInTheFirstCellAtTheCoast();
        endsBesideAnotherRiver();
        byLandWithoutHarbours();
        noWay();
        elevenWhereLettersLie();
        crossingLettersCountOnce();
        theSourceAndTheLastCell();
        lowestDirections();
        staysAsItIs();
        eachAloneOnANewObject();
        alsoIfThereAreEight();
        wayCells();
        washes();
        mildestFewestNames();
        mildestMostCells();
        mildestLowest();
        mildestNone();
        drowns();
        addRiver();
        fullAndWrong();
        dropRiver();
        exceptions();
        Check.end();
    }

    private static void way(String label, String due, PortolanChart chart, int cell) {
        String before = Charts.state(chart);
        Check.same("30 " + label, due, Charts.way(chart, cell).toString());
        Check.same("29 " + label, due.split(",").length, chart.wayLength(cell));
        Check.same("s5 predictions change nothing, " + label, before, Charts.state(chart));
        int rivers = chart.size(4);
        Check.same("38 " + label, rivers, chart.addRiver(cell));
        Check.same("10 " + label, due, Charts.river(chart, rivers).toString());
        chart.undo();
        Check.same("50 " + label, before, Charts.state(chart));
    }

    private static void none(String label, PortolanChart chart, int cell) {
        String before = Charts.state(chart);
        Check.same("29 WRONG, " + label, -3, chart.wayLength(cell));
        Check.same("30 NONE, " + label, -1, chart.wayCell(cell, 0));
        Check.same("31 0, " + label, 0, chart.washes(cell));
        Check.same("38 WRONG, " + label, -3, chart.addRiver(cell));
        Check.same("s5 nothing changes, " + label, before, Charts.state(chart));
        Check.same("s5 it is no action, " + label, 0, chart.size(11));
    }

    private static void whereARiverCanBegin() {
        PortolanChart chart = Charts.of("chart 3 5;land 1 0 4;harbour a 1 0;river 1 4;place a right");
        none("in the sea", chart, 0);
        none("in the cell of a harbour", chart, 5);
        none("on a river", chart, 9);
        way("with a letter", "[6]", chart, 6);
        way("without a letter", "[7]", chart, 7);
    }

    private static void endsInTheFirstCellAtTheCoast() {
        for (int cell = 0; cell < 25; cell++) {
            boolean rim = cell / 5 % 4 == 0 || cell % 5 % 4 == 0;
            if (rim) {
                way("the source at the coast", "[" + cell + "]", Charts.of(Charts.allLand(5, 5)), cell);
            }
        }
        way("above", "[7, 2]", Charts.of(Charts.allLand(5, 5)), 7);
        way("the first cell at the coast, not the rim", "[24, 17]", lake(7, 10), 24);
    }

    /** All land with the sea in one cell. */
    private static PortolanChart lake(int side, int cell) {
        PortolanChart chart = Charts.of(Charts.allLand(side, side));
        chart.erode(cell);
        return chart;
    }

    private static void endsBesideAnotherRiver() {
        String text = Charts.allLand(7, 7) + ";river 3 3";
        PortolanChart chart = Charts.of(text);
        Check.same("10 the first one", "[24, 17, 10, 3]", Charts.river(chart, 0).toString());
        way("the source beside the last river's source", "[25]", chart, 25);
        way("the source beside the middle of it", "[18]", chart, 18);
        way("below its source", "[31]", chart, 31);
        way("a corner is not beside it", "[32, 25]", chart, 32);
        way("one step from it", "[16]", chart, 16);
        way("two steps from it, the lowest DIRECTION", "[30, 23]", chart, 30);
        PortolanChart two = Charts.of(text + ";river 4 3");
        Check.same("10 beside it", "[31]", Charts.river(two, 1).toString());
        way("beside the second one", "[38]", two, 38);
    }

    private static void byLandWithoutHarbours() {
        way("around a harbour", "[12, 13, 14]", Charts.of(ALL + "harbour a 0 2"), 12);
        way("around three harbours", "[12, 11, 10]", Charts.of(ALL + "harbour a 0 2;harbour b 2 4;harbour c 4 2"), 12);
        way("around four harbours", "[12, 7, 8, 3]",
            Charts.of(ALL + "harbour a 0 2;harbour b 2 4;harbour c 4 2;harbour d 2 0"), 12);
        way("not over the sea", "[0]", Charts.of("chart 3 3;land 0 0 0;land 0 2 2"), 0);
    }

    private static void noWay() {
        none("shut in by harbours", Charts.of(SHUT + "turn 0"), 4);
        PortolanChart chart = Charts.of("chart 3 5;land 0 1 3;land 1 0 4;land 2 1 3;harbour a 0 1;harbour b 0 2;"
            + "harbour c 0 3;harbour d 2 1;harbour e 2 2;harbour f 2 3;harbour g 1 0;harbour h 1 4");
        none("three cells shut in by eight harbours", chart, 6);
        none("in the middle of them", chart, 7);
        none("at their end", chart, 8);
        Check.same("32 NONE", -1, chart.mildest());
        Check.same("40 a hole in them", 0, chart.erode(6));
        Check.same("29 a way then", 1, chart.wayLength(7));
        Check.same("29 a longer one", 2, chart.wayLength(8));
    }

    private static void elevenWhereLettersLie() {
        way("around one letter", "[12, 13, 14]", Charts.of(ALL + "harbour xx 1 0;place xx right"), 12);
        way("not around a name that is not placed", "[12, 7, 2]", Charts.of(ALL + "harbour xx 1 0"), 12);
        String text = Charts.allLand(5, 12) + ";harbour a 0 0;harbour b 0 1;harbour c 2 0;harbour aaaaaaaa 1 0;"
            + "harbour bbbbbbbb 3 0;place aaaaaaaa right;place bbbbbbbb right";
        way("eleven cells are as many as a letter and two cells", "[27, 28, 29, 30, 31, 32, 33, 21, 9]",
            Charts.of(text), 27);
        way("ten and one more", "[25, 26, 27, 28, 29, 30, 31, 32, 33, 21, 9]", Charts.of(text), 25);
    }

    /** To the right a cell with two letters: 1 + 11 + 1, less than 1 + 11 + 11 upwards. */
    private static void crossingLettersCountOnce() {
        PortolanChart chart = Charts.of(ALL + "harbour px 0 3;harbour qx 4 3;harbour ab 0 0;harbour cd 1 0;"
            + "harbour ef 3 0;harbour gh 4 0;harbour n 2 0;place px down;place qx up;place ab right;place cd right;"
            + "place ef right;place gh right");
        Check.same("15 both cross there", 3, chart.cell(13, 4));
        Check.same("31 both", 3, chart.washes(12));
        way("11 for two letters in a cell", "[12, 13, 14]", chart, 12);
    }

    private static void theSourceAndTheLastCell() {
        way("a letter in the last cell", "[12, 13, 14]", Charts.of(ALL + "harbour xx 0 0;place xx right"), 12);
        PortolanChart source = Charts.of(ALL + "harbour xx 2 0;place xx right");
        way("a letter in the source", "[12, 7, 2]", source, 12);
        Check.same("31 it is washed away from the source", 1, source.washes(12));
        PortolanChart last = Charts.of(ALL + "harbour xxx 0 0;place xxx right;turn 1");
        way("a source at the coast with a letter stays there", "[1]", last, 1);
        Check.same("31 it is washed away", 1, last.washes(1));
    }

    private static void lowestDirections() {
        way("up", "[24, 17, 10, 3]", Charts.of(Charts.allLand(7, 7)), 24);
        way("right", "[24, 25, 26, 27]", Charts.of(Charts.allLand(7, 7) + ";harbour a 0 3"), 24);
        way("down", "[24, 31, 38, 45]", Charts.of(Charts.allLand(7, 7) + ";harbour a 0 3;harbour b 3 6"), 24);
        way("left", "[24, 23, 22, 21]",
            Charts.of(Charts.allLand(7, 7) + ";harbour a 0 3;harbour b 3 6;harbour c 6 3"), 24);
        way("the first two steps up, the third one to the right", "[24, 17, 10, 11, 4]",
            Charts.of(Charts.allLand(7, 7) + ";harbour a 0 3;harbour b 3 6;harbour c 6 3;harbour d 3 0"), 24);
    }

    private static void staysAsItIs() {
        PortolanChart chart = Charts.of(ALL + "river 2 2;river 2 3;harbour ab 1 0");
        String first = "[12, 7, 2]";
        Check.same("10 as they came", first + " [13]", Charts.river(chart, 0) + " " + Charts.river(chart, 1));
        chart.erode(8);
        chart.erode(11);
        chart.erode(17);
        Check.same("s2 whatever changes later: more sea", first, Charts.river(chart, 0).toString());
        chart.raise(8);
        chart.place(0, 1);
        Check.same("s2 whatever changes later: less sea", first, Charts.river(chart, 0).toString());
        chart.dropRiver(0);
        Check.same("s2 whatever changes later: the river that it flowed to", "[13]", Charts.river(chart, 0).toString());
    }

    private static void eachAloneOnANewObject() {
        String text = ALL + "harbour xx 2 0;place xx right";
        Check.same("29 alone", 3, Charts.of(text).wayLength(12));
        Check.same("30 alone", 2, Charts.of(text).wayCell(12, 2));
        Check.same("31 alone", 1, Charts.of(text).washes(12));
        Check.same("32 alone", 6, Charts.of(text).mildest());
        Check.same("38 alone", 0, Charts.of(text).addRiver(12));
        PortolanChart chart = Charts.of(SHUT + "turn 0");
        chart.wayLength(0);
        Check.same("30 not the way that was asked for before", -1, chart.wayCell(4, 0));
        chart.wayLength(0);
        Check.same("29 not the way that was asked for before", -3, chart.wayLength(4));
        PortolanChart changed = Charts.of(ALL + "turn 0");
        changed.wayLength(12);
        changed.erode(7);
        Check.same("29 as things are now", 1, changed.wayLength(12));
    }

    private static String eight() {
        return ALL + "river 0 0;river 0 1;river 0 2;river 0 3;river 0 4;river 4 4;river 4 3;river 4 2";
    }

    private static void alsoIfThereAreEight() {
        PortolanChart chart = Charts.of(eight() + ";harbour ab 2 0;place ab right");
        Check.same("29 also if there are 8", 2, chart.wayLength(12));
        Check.same("30 also if there are 8", 7, chart.wayCell(12, 1));
        Check.same("31 also if there are 8", 1, chart.washes(12));
        Check.same("32 also if there are 8", 13, chart.mildest());
        Check.same("38 but none comes", -2, chart.addRiver(12));
    }

    private static void wayCells() {
        PortolanChart chart = Charts.of(ALL + "turn 0");
        Check.same("30 from the source on", "12 7 2 -1", chart.wayCell(12, 0) + " " + chart.wayCell(12, 1) + " "
            + chart.wayCell(12, 2) + " " + chart.wayCell(12, 3));
        for (int index : new int[] {Integer.MIN_VALUE, -1, 3, 143, 144, Integer.MAX_VALUE}) {
            Check.same("30 none there", -1, chart.wayCell(12, index));
            Check.same("30 none of one", -1, chart.wayCell(0, index));
        }
        Check.same("30 the only one", 0, chart.wayCell(0, 0));
        Check.same("30 none behind it", -1, chart.wayCell(0, 1));
        chart.addRiver(12);
        for (int index : new int[] {Integer.MIN_VALUE, -1, 3, 143, 144, Integer.MAX_VALUE}) {
            Check.same("10 none there", -1, chart.river(0, index));
        }
    }

    private static void washes() {
        PortolanChart chart = Charts.of("chart 3 6;land 1 0 5;harbour abcd 1 0;harbour q 1 5;place abcd right");
        for (int cell = 7; cell <= 10; cell++) {
            Check.same("31 each letter of a name", 1, chart.washes(cell));
            Check.same("33 each letter of a name", 1, chart.drowns(cell));
        }
        Check.same("31 a harbour", 0, chart.washes(6));
        Check.same("31 the sea", 0, chart.washes(0));
        PortolanChart free = Charts.of("chart 3 6;land 1 0 5;harbour abc 1 0;place abc right");
        Check.same("31 the last letter", 1, free.washes(9));
        Check.same("31 behind the last letter", 0, free.washes(10));
        free.lift(0);
        Check.same("31 none is placed", 0, free.washes(9));
        PortolanChart along = Charts.of(Charts.allLand(3, 6) + ";harbour abc 1 0;harbour p 0 2;harbour q 2 2;"
            + "place abc right");
        way("along a name", "[8, 9, 3]", along, 8);
        Check.same("31 a name with two letters on it", 1, along.washes(8));
        along.addRiver(8);
        Check.same("38 a name with two letters on it is lifted", -1, along.harbour(0, 2));
    }

    private static void mildestFewestNames() {
        Check.same("32 fewest names ahead of most cells", 6,
            Charts.of(ALL + "harbour ab 2 0;place ab right").mildest());
        String all = "chart 3 3;land 0 1 1;land 1 0 2;land 2 1 1;harbour q 0 1;harbour r 2 1;harbour ab ";
        Check.same("32 each washes one name away, the second one has more cells", 4,
            Charts.of(all + "1 2;place ab left").mildest());
        Check.same("32 each washes one name away, the first one has more cells", 4,
            Charts.of(all + "1 0;place ab right").mildest());
        PortolanChart two = Charts.of("chart 3 5;land 0 2 2;land 1 0 4;land 2 2 2;harbour xa 0 2;harbour ba 1 0;"
            + "harbour ya 2 2;place ba right");
        Check.same("32 none is better than one", 8, two.mildest());
    }

    private static void mildestMostCells() {
        Check.same("32 three cells", 12, Charts.of(Charts.allLand(5, 5)).mildest());
        Check.same("32 six cells", 65, Charts.of(Charts.allLand(12, 12)).mildest());
        PortolanChart chart = Charts.of(Charts.allLand(5, 5));
        chart.addRiver(12);
        Check.same("32 two cells beside the river", 16, chart.mildest());
    }

    private static void mildestLowest() {
        Check.same("32 of two the lowest one", 5, Charts.of(Charts.allLand(3, 4)).mildest());
        Check.same("32 of all the lowest one", 0, Charts.of("chart 3 3;land 0 0 2").mildest());
        Check.same("32 the last cell alone", 8, Charts.of("chart 3 3;land 2 2 2").mildest());
    }

    private static void mildestNone() {
        Check.same("32 no land", -1, new PortolanChart().mildest());
        Check.same("32 a harbour alone", -1, Charts.of("chart 3 3;land 1 1 1;harbour a 1 1").mildest());
        Check.same("32 a river alone", -1, Charts.of("chart 3 3;land 1 1 1;river 1 1").mildest());
        Check.same("32 shut in", -1, Charts.of(
            "chart 3 3;land 0 1 1;land 1 0 2;land 2 1 1;harbour a 0 1;harbour b 1 0;harbour c 1 2;harbour d 2 1")
            .mildest());
    }

    private static void drowns() {
        PortolanChart chart = Charts.of(ALL + "harbour ax 2 0;harbour bx 0 2;harbour q 4 4;river 3 4;place ax right;"
            + "place bx down");
        Check.same("33 both", 3, chart.drowns(12));
        Check.same("33 the first letter", 1, chart.drowns(11));
        Check.same("33 behind the last letter", 0, chart.drowns(13));
        Check.same("33 a harbour", 0, chart.drowns(10));
        Check.same("33 a river", 0, chart.drowns(19));
        Check.same("33 sea", 0, new PortolanChart().drowns(8));
        String before = Charts.state(chart);
        chart.drowns(12);
        Check.same("s5 it changes nothing", before, Charts.state(chart));
    }

    private static void addRiver() {
        for (int source : new int[] {11, 13}) {
            PortolanChart chart = Charts.of(ALL + "harbour xyz 2 0;harbour pq 0 0;harbour n 4 4;place xyz right;"
                + "place pq right;place n left");
            chart.addRiver(source);
            Check.same("38 names with a letter on it are lifted, the others stay", "-1 1 3",
                chart.harbour(0, 2) + " " + chart.harbour(1, 2) + " " + chart.harbour(2, 2));
            Check.same("38 none of its letters is left", 0, chart.cell(11, 4) + chart.cell(12, 4) + chart.cell(13, 4));
        }
        PortolanChart red = Charts.of(ALL + "harbour xyz 2 0 red;place xyz right");
        Check.same("38 through red names, too", 0, red.addRiver(12));
        Check.same("38 they are washed away", 0, red.size(5));
        PortolanChart chart = Charts.of(ALL + "turn 0");
        for (int river = 0; river < 8; river++) {
            Check.same("38 the number of the river", river, chart.addRiver(20 + river % 5 - river / 5 * 20));
        }
        Check.same("6 eight", 8, chart.size(4));
    }

    private static void fullAndWrong() {
        PortolanChart chart = Charts.of(eight() + ";harbour a 2 0");
        String before = Charts.state(chart);
        Check.same("38 FULL", -2, chart.addRiver(20));
        Check.same("38 FULL ahead of WRONG: a river", -2, chart.addRiver(0));
        Check.same("38 FULL ahead of WRONG: a harbour", -2, chart.addRiver(10));
        for (int bad : BAD) {
            Check.noIndex("38 the exception ahead of FULL", () -> chart.addRiver(bad));
        }
        Check.same("s5 nothing changes", before, Charts.state(chart));
        Check.same("s5 nothing to take back", 0, chart.size(11));
        Check.same("39 one less", 1, chart.dropRiver(7));
        Check.same("38 now one more", 7, chart.addRiver(20));
        Check.same("38 and no more", -2, chart.addRiver(15));
    }

    private static void dropRiver() {
        PortolanChart chart = Charts.of(eight());
        Check.same("39 the first one", 1, chart.dropRiver(0));
        Check.same("6 seven are left", 7, chart.size(4));
        for (int river = 0; river < 7; river++) {
            int cell = river < 4 ? river + 1 : 28 - river;
            Check.same("39 the numbers of those behind become one less", cell, chart.river(river, 0));
            Check.same("7 in their cells, too", river, chart.cell(cell, 2));
        }
        Check.same("7 none in the cell that it had", -1, chart.cell(0, 2));
        Check.same("39 the last one", 1, chart.dropRiver(6));
        Check.same("7 the others keep theirs", 5, chart.cell(23, 2));
        Check.noIndex("39 behind the last one", () -> chart.dropRiver(6));
        PortolanChart longer = Charts.of(ALL + "river 2 2");
        Check.same("39 how many cells it had", 3, longer.dropRiver(0));
        Check.noIndex("39 none is left", () -> longer.dropRiver(0));
        Check.same("39 one action", 1, longer.size(11));
        Check.same("39 names do not come back", 0, longer.size(5));
    }

    private static void exceptions() {
        PortolanChart chart = Charts.of(ALL + "river 2 2");
        for (int bad : BAD) {
            Check.noIndex("29 no such cell", () -> chart.wayLength(bad));
            Check.noIndex("30 no such cell", () -> chart.wayCell(bad, 0));
            Check.noIndex("30 no such cell nor place", () -> chart.wayCell(bad, -1));
            Check.noIndex("31 no such cell", () -> chart.washes(bad));
            Check.noIndex("33 no such cell", () -> chart.drowns(bad));
            Check.noIndex("38 no such cell", () -> chart.addRiver(bad));
            Check.noIndex("39 no such river", () -> chart.dropRiver(bad));
            Check.noIndex("10 no such river", () -> chart.river(bad, 0));
        }
        Check.noIndex("39 behind the last river", () -> chart.dropRiver(1));
        Check.noIndex("10 behind the last river", () -> chart.river(1, 0));
        Check.same("s5 an exception changes nothing", 0, chart.size(11));
    }
}
