/** Promises 2 to 5 and section 4: each sentence that names a boundary, with checks of its own. */
public final class TextEdgesTest {
    private static final String LAND = "chart 4 6;land 0 0 5;land 1 0 5;";
    private static final String PORT = LAND + "harbour a 0 0;";

    public static void main(String[] args) {
        appendUpTo500();
        bytesThatAre0AreLeftOut();
        textOf500Bytes();
        emptyText();
        oneOrMoreStatements();
        theFirstOneIsChart();
        threeToTwelveEach();
        landRowFromTo();
        landBehind();
        nameOfOneToEightLetters();
        nameThatNoOtherHarbourHas();
        cellForAHarbour();
        red();
        eightHarbours();
        riverCell();
        eightRivers();
        placeDirections();
        placeReasons();
        voyageOfOneToSixteen();
        voyageAtMostOnce();
        turns();
        spaces();
        words();
        numbers();
        theFirstErrorEndsIt();
        theSmallerNumberCounts();
        theTextEndsTooEarly();
        whatBelongsToWhichStatement();
        nothingElseChangesOnAnError();
        theBufferIsEmptied();
        Check.end();
    }

    private static PortolanChart good(String text) {
        PortolanChart chart = Charts.of(text);
        Check.same("4 no error in " + text, 0, chart.loadError());
        Check.same("5 no statement in " + text, -1, chart.loadStatement());
        return chart;
    }

    /** A chart whose buffer holds a text and spaces behind it. */
    private static PortolanChart filled(String text, int length) {
        PortolanChart chart = new PortolanChart();
        Charts.type(chart, text + " ".repeat(length - text.length()));
        Check.same("2 the length", length, chart.append(0));
        return chart;
    }

    // ---- promise 2 ----

    private static void appendUpTo500() {
        Check.same("2 eight bytes to 500", 500, filled("", 492).append(0x6161616161616161L));
        PortolanChart chart = filled("", 493);
        Check.same("2 eight bytes to 501", -2, chart.append(0x6161616161616161L));
        Check.same("2 FULL changes nothing", 493, chart.append(0));
        Check.same("2 seven bytes to 500, a 0 in the middle", 500, chart.append(0x6161610061616161L));
        Check.same("2 one to 501", -2, chart.append(0x61L));
        Check.same("2 one in front to 501", -2, chart.append(Long.MIN_VALUE));
        Check.same("2 none to 500", 500, chart.append(0L));
        Check.same("2 one in front to 500", 500, filled("", 499).append(0x6100000000000000L));
        Check.same("2 one in the middle to 500", 500, filled("", 499).append(0x61000000L));
        Check.same("2 one of 255 to 500", 500, filled("", 499).append(0xFF00L));
        Check.same("2 two far from one another to 501", -2, filled("", 499).append(0x6100000000000061L));
        PortolanChart kept = filled("chart 3 4", 499);
        kept.append(0x6161L);
        Check.same("2 nothing of what is FULL is added", 0, kept.load());
        Check.same("2 it is read as it was", 4, kept.size(1));
    }

    private static void bytesThatAre0AreLeftOut() {
        PortolanChart chart = new PortolanChart();
        Check.same("2 nothing", 0, chart.append(0L));
        Check.same("2 a byte of 1", 1, chart.append(1L));
        Check.same("2 a byte of 128", 2, chart.append(128L));
        Check.same("2 a byte of 128 in front", 3, chart.append(Long.MIN_VALUE));
        Check.same("2 eight bytes of 255", 11, chart.append(-1L));
        Check.same("2 zeros around", 12, chart.append(0x6100000000L));
        Check.same("2 every second one", 16, chart.append(0x0061006100610061L));
        Check.same("2 every other one", 20, chart.append(0x6100610061006100L));
        PortolanChart order = new PortolanChart();
        order.append(0x6300680061007200L);
        order.append(0x0074000020003500L);
        order.append(0x2000000000000036L);
        Check.same("2 the most significant byte first", 0, order.load());
        Check.same("2 it was chart 5 6", "5 6", order.size(0) + " " + order.size(1));
    }

    // ---- promise 3: the text ----

    private static void textOf500Bytes() {
        Check.same("3 500 bytes without an error", 0, filled("chart 3 3", 500).load());
        PortolanChart last = filled("chart 3 3", 499);
        last.append('!');
        Check.same("3 an error in the last of 500 bytes", -599, last.load());
        Check.same("4 of the kind 1", 1, last.loadError());
        PortolanChart end = filled("chart 3 3;", 500);
        Check.same("3 an error at the end of 500 bytes", -600, end.load());
        Check.same("5 in the next statement", 1, end.loadStatement());
        PortolanChart full = filled("chart 3 3;turn", 499);
        full.append('3');
        Check.same("3 a number in the last byte", 0, full.load());
        Check.same("3 it was read", 3, full.size(8));
    }

    private static void emptyText() {
        Charts.error(1, "^");
        Charts.error(1, " ^");
        PortolanChart chart = good("chart 5 5");
        Check.same("3 an empty buffer has no statement", -100, chart.load());
        Check.same("4 error 1", 1, chart.loadError());
        Check.same("5 in the first statement", 0, chart.loadStatement());
        Check.same("3 the chart stays", 5, chart.size(0));
    }

    private static void oneOrMoreStatements() {
        good("chart 3 3");
        good("chart 3 3;turn 0");
        good("chart 3 3" + ";turn 1".repeat(70));
        Charts.error(1, "^;");
        Charts.error(1, "^;chart 3 3");
        Charts.error(1, "chart 3 3;^");
        Charts.error(1, "chart 3 3;^;turn 1");
        Charts.error(1, "chart 3 3;turn 1;^");
        Charts.error(1, "chart 3 3^,turn 1");
        Charts.error(1, "chart 3 3 ^turn 1");
        Charts.error(1, "chart 3 3;turn 1 ^turn 1");
    }

    private static void theFirstOneIsChart() {
        String[] others = {"land 0 0 0", "harbour a 0 0", "river 0 0", "place a up", "voyage a", "turn 0"};
        for (String other : others) {
            Charts.error(1, "^" + other);
            Charts.error(1, "  ^" + other + ";chart 3 3");
        }
        Charts.error(1, "chart 3 3;^chart 3 3");
        Charts.error(1, "chart 3 3;turn 1;^chart 4 4");
        Charts.error(1, "^3 3");
    }

    private static void threeToTwelveEach() {
        for (int side = 0; side <= 14; side++) {
            if (side >= 3 && side <= 12) {
                Check.same("3 rows", side, good("chart " + side + " 3").size(0));
                Check.same("3 columns", side, good("chart 3 " + side).size(1));
                Check.same("3 all sea", 0, good("chart " + side + " " + side).size(2));
            } else {
                Charts.error(2, "chart ^" + side + " 3");
                Charts.error(2, "chart 3 ^" + side);
            }
        }
        Charts.error(1, "chart^");
        Charts.error(1, "chart 3^");
        Charts.error(1, "chart 3^;");
        Charts.error(1, "chart 3 3 ^3");
    }

    private static void landRowFromTo() {
        Check.same("3 from one to the other", "~~~~~/~...~/~~~~~", Charts.picture(good("chart 3 5;land 1 1 3")));
        Check.same("3 one cell", "~~~~/~~~~/~~~.", Charts.picture(good("chart 3 4;land 2 3 3")));
        Check.same("3 the first cell", ".~~~/~~~~/~~~~", Charts.picture(good("chart 3 4;land 0 0 0")));
        Check.same("3 a whole row", "~~~~/~~~~/....", Charts.picture(good("chart 3 4;land 2 0 3")));
        Check.same("3 what is land stays land", 3, good("chart 3 5;land 1 1 2;land 1 2 3").size(2));
        Charts.error(2, "chart 3 4;land ^3 0 0");
        Charts.error(2, "chart 3 4;land 0 ^4 4");
        Charts.error(2, "chart 3 4;land 0 0 ^4");
        Charts.error(2, "chart 3 4;land 0 2 ^1");
        Charts.error(2, "chart 3 4;land 0 3 ^0");
        Charts.error(2, "chart 4 3;land 0 ^3 3");
        Charts.error(1, "chart 3 4;land 0 0^");
        Charts.error(1, "chart 3 4;land 0 0 0 ^0");
        Charts.error(1, "chart 3 4;land ^a 0 0");
    }

    private static void landBehind() {
        good("chart 3 3;turn 1;land 0 0 0;turn 2;land 1 0 0");
        Charts.error(3, PORT + "^land 2 0 0");
        Charts.error(3, PORT + "  ^land 2 0 0");
        Charts.error(3, PORT + "turn 1;^land 2 0 0");
        Charts.error(3, PORT + "voyage a;place a right;^land 2 0 0");
        Charts.error(3, LAND + "river 0 0;^land 2 0 0");
        Charts.error(3, LAND + "river 0 0;turn 0;^land 2 0 0");
        Charts.error(3, PORT + "^land");
        Charts.error(3, PORT + "^land 9 9 9");
        Charts.error(3, PORT + "^land;;");
    }

    // ---- harbours ----

    private static void nameOfOneToEightLetters() {
        Check.same("3 one letter", 1, good(LAND + "harbour z 0 0").harbour(0, 3));
        Check.same("3 eight letters", 8, good(LAND + "harbour zyxwvuts 0 0").harbour(0, 3));
        Charts.error(1, LAND + "harbour ^zyxwvutsr 0 0");
        Charts.error(1, LAND + "harbour ^");
        Charts.error(1, LAND + "harbour ^0 0");
        Charts.error(1, LAND + "harbour ^;");
        Charts.error(1, LAND + "harbour ^Az 0 0");
        String[] any = {"chart", "land", "harbour", "river", "place", "voyage", "turn", "up"};
        StringBuilder text = new StringBuilder(LAND.substring(0, LAND.length() - 1));
        for (int i = 0; i < any.length; i++) {
            text.append(";harbour ").append(any[i]).append(' ').append(i / 6).append(' ').append(i % 6);
        }
        text.append(";voyage chart land harbour river place voyage turn up");
        Check.same("3 any word is a NAME", 8, good(text.toString()).size(3));
        PortolanChart red = good(LAND + "harbour red 0 0 red;harbour right 0 5;place red right;voyage right red red");
        Check.same("3 also red", "1 1 3 2", red.harbour(0, 1) + " " + red.harbour(0, 2) + " " + red.harbour(0, 3) + " "
            + red.harbour(0, 4));
    }

    private static void nameThatNoOtherHarbourHas() {
        Charts.error(3, PORT + "harbour ^a 0 1");
        Charts.error(3, PORT + "harbour ^a 0 0");
        Charts.error(3, PORT + "harbour ^a x");
        Charts.error(3, PORT + "harbour b 0 1;harbour ^b");
        Check.same("3 a longer one, a shorter one, another first one", 4,
            good(LAND + "harbour ab 0 0;harbour abc 0 1;harbour a 0 2;harbour bb 0 3").size(3));
        Check.same("3 the last of eight letters", 2, good(LAND + "harbour aaaaaaaa 0 0;harbour aaaaaaab 0 1").size(3));
    }

    private static void cellForAHarbour() {
        Charts.error(2, LAND + "harbour a ^4 0");
        Charts.error(2, LAND + "harbour a 0 ^6");
        Check.same("3 the last column", 5, good(LAND + "harbour a 0 5").harbour(0, 0));
        Charts.error(3, LAND + "harbour a 2 ^0");
        Charts.error(3, LAND + "harbour a 3 ^5 red");
        Charts.error(3, PORT + "harbour b 0 ^0");
        Charts.error(3, LAND + "river 0 3;harbour a 0 ^3");
        Charts.error(3, PORT + "place a right;harbour b 0 ^1");
        Check.same("3 a letter is not there before", 2, good(PORT + "harbour b 0 1").size(3));
        Charts.error(3, LAND + "harbour abc 0 0;place abc right;harbour b 0 ^3");
        Check.same("3 behind the last letter", 2, good(LAND + "harbour abc 0 0;place abc right;harbour b 0 4").size(3));
        Charts.error(3, Charts.allLand(3, 3) + ";harbour a 1 ^1");
        good("chart 3 3;land 0 0 0;land 0 2 2;land 1 0 2;land 2 0 2;harbour a 1 1");
        good("chart 3 3;land 0 0 2;land 1 0 1;land 2 0 2;harbour a 1 1");
        good("chart 3 3;land 0 0 2;land 1 0 2;land 2 0 0;land 2 2 2;harbour a 1 1");
        good("chart 3 3;land 0 0 2;land 1 1 2;land 2 0 2;harbour a 1 1");
        Charts.error(3, "chart 3 3;land 0 1 1;land 1 0 2;land 2 1 1;harbour a 1 ^1");
        Charts.error(3, Charts.allLand(3, 3) + ";river 0 1;harbour a 1 ^1");
        Charts.error(3, Charts.allLand(3, 3) + ";harbour a 01 ^01");
        for (int cell = 0; cell < 9; cell++) {
            if (cell != 4) {
                good(Charts.allLand(3, 3) + ";harbour a " + cell / 3 + " " + cell % 3);
            }
        }
    }

    private static void red() {
        Check.same("3 red", 1, good(LAND + "harbour a 0 0 red").harbour(0, 1));
        Check.same("3 not red", 0, good(LAND + "harbour a 0 0").harbour(0, 1));
        Check.same("3 only its own", "0 1 0", reds(good(LAND + "harbour a 0 0;harbour b 0 1 red;harbour c 0 2")));
        Charts.error(1, LAND + "harbour a 0 0 ^re");
        Charts.error(1, LAND + "harbour a 0 0 ^rex");
        Charts.error(1, LAND + "harbour a 0 0 ^redd");
        Charts.error(1, LAND + "harbour a 0 0 red ^red");
        Charts.error(1, LAND + "harbour a ^red 0 0");
    }

    private static String reds(PortolanChart chart) {
        return chart.harbour(0, 1) + " " + chart.harbour(1, 1) + " " + chart.harbour(2, 1);
    }

    private static String harbours(int count) {
        StringBuilder text = new StringBuilder("chart 3 12;land 0 0 11");
        for (int i = 0; i < count; i++) {
            text.append(";harbour ").append((char) ('a' + i)).append(" 0 ").append(i);
        }
        return text.toString();
    }

    private static void eightHarbours() {
        Check.same("3 eight", 8, good(harbours(8)).size(3));
        Charts.error(3, harbours(8) + ";^harbour i 0 8");
        Charts.error(3, harbours(8) + ";turn 1; ^harbour i 0 8");
        Charts.error(3, harbours(8) + ";^harbour");
        Charts.error(3, harbours(8) + ";^harbour abcdefghi");
        Charts.error(3, harbours(8) + ";^harbour a 0 0");
        Charts.error(3, harbours(8) + ";^harbour i 9 9");
        Charts.error(1, harbours(7) + ";harbour^");
        PortolanChart chart = good(harbours(8));
        for (int harbour = 0; harbour < 8; harbour++) {
            Check.same("8 numbered as they were told", harbour, chart.harbour(harbour, 0));
            Check.same("9 with their names", 'a' + harbour, chart.letter(harbour, 0));
        }
    }

    // ---- rivers ----

    private static void riverCell() {
        Charts.error(2, LAND + "river ^4 0");
        Charts.error(2, LAND + "river 0 ^6");
        Charts.error(1, LAND + "river 0^");
        Charts.error(1, LAND + "river 0 0 ^0");
        Charts.error(3, LAND + "river 2 ^0");
        Charts.error(3, LAND + "river 02 ^00");
        Charts.error(3, PORT + "river 0 ^0");
        Charts.error(3, LAND + "river 0 0;river 0 ^0");
        Charts.error(3, Charts.allLand(3, 3) + ";harbour a 0 1;harbour b 1 0;harbour c 1 2;harbour d 2 1;river 1 ^1");
        Check.same("10 the last cell", 11, good(LAND + "river 1 5").river(0, 0));
        PortolanChart chart = good(LAND + "harbour ab 0 0;place ab right;river 0 2;harbour c 0 1;river 1 0");
        Check.same("3 names that it washes away are lifted", -1, chart.harbour(0, 2));
        Check.same("3 no letter is left in a cell for a harbour", 1, chart.harbour(1, 0));
        Check.same("10 rivers as they came", "[2] [6]", Charts.river(chart, 0) + " " + Charts.river(chart, 1));
    }

    private static String rivers(int count) {
        StringBuilder text = new StringBuilder("chart 3 12;land 0 0 11");
        for (int i = 0; i < count; i++) {
            text.append(";river 0 ").append(i);
        }
        return text.toString();
    }

    private static void eightRivers() {
        Check.same("3 eight", 8, good(rivers(8)).size(4));
        Charts.error(3, rivers(8) + ";^river 0 8");
        Charts.error(3, rivers(8) + ";   ^river 0 8");
        Charts.error(3, rivers(8) + ";^river");
        Charts.error(3, rivers(8) + ";^river 0 0");
        Charts.error(3, rivers(8) + ";^river 99 0");
        Charts.error(1, rivers(7) + ";river^");
        Check.same("3 a harbour still may come", 1, good(rivers(8) + ";harbour a 0 8").size(3));
    }

    // ---- place ----

    private static void placeDirections() {
        String corners = Charts.allLand(3, 4) + ";harbour a 0 0;harbour b 0 3;harbour c 2 3;harbour d 2 0;";
        String[] words = {"up", "right", "down", "left"};
        int[] harbour = {2, 0, 1, 2};
        String names = "abcd";
        for (int direction = 0; direction < 4; direction++) {
            PortolanChart chart = good(corners + "place " + names.charAt(harbour[direction]) + " " + words[direction]);
            Check.same("3 " + words[direction], direction, chart.harbour(harbour[direction], 2));
        }
        Check.same("3 in place of how it was", "@..@/a..@/@...",
            Charts.picture(good(Charts.allLand(3, 4) + ";harbour a 0 0;harbour b 0 3;harbour c 1 3;harbour d 2 0;"
                + "place a right;place a down")));
        Check.same("3 the same once more", 1, good(PORT + "place a right;place a right").size(5));
        String[] others = {"u", "upp", "uq", "righ", "rights", "righx", "dow", "downs", "dowx", "lef", "lefts", "lefx",
            "north", "red"};
        for (String word : others) {
            Charts.error(1, PORT + "place a ^" + word);
        }
        Charts.error(1, PORT + "place a^");
        Charts.error(1, PORT + "place a^;");
        Charts.error(1, PORT + "place a ^1");
        Charts.error(1, PORT + "place ^0 up");
        Charts.error(1, PORT + "place^");
        Charts.error(1, PORT + "place ^abcdefghi up");
        Charts.error(4, PORT + "place ^b right");
        Charts.error(4, PORT + "place ^aa right");
        Charts.error(4, LAND + "harbour abcdefgh 0 0;place ^abcdefg right");
        Charts.error(4, LAND + "place ^a right");
        Charts.error(4, PORT + "place ^right right");
    }

    private static void placeReasons() {
        Charts.error(3, Charts.allLand(3, 3) + ";harbour a 0 1;place a ^left");
        Charts.error(3, LAND + "harbour aa 1 0;place aa ^up");
        Charts.error(3, PORT + "place a ^up");
        Charts.error(3, LAND + "harbour aa 0 0;place aa ^down");
        Charts.error(3, PORT + "river 0 1;place a ^right");
        Charts.error(3, PORT + "harbour b 0 1;place a ^right");
        String two = LAND + "harbour xa 1 0;harbour y 0 2;place xa right;";
        Charts.error(3, two + "place y ^down");
        Charts.error(3, two.replace("y 0 2", "a 0 2 red") + "place a ^down");
        Charts.error(3, two.replace("xa 1 0", "xa 1 0 red").replace("y 0 2", "a 0 2") + "place a ^down");
        Check.same("3 alike and not red", 2, good(two.replace("y 0 2", "a 0 2") + "place a down").size(5));
        Charts.error(3, PORT + "place a ^up;turn 9");
    }

    // ---- voyage and turn ----

    private static void voyageOfOneToSixteen() {
        Check.same("3 one", 1, good(PORT + "voyage a").size(7));
        Check.same("3 sixteen", 16, good(PORT + "voyage" + " a".repeat(16)).size(7));
        Charts.error(1, PORT + "voyage^");
        Charts.error(1, PORT + "voyage ^;");
        Charts.error(1, PORT + "voyage ^0");
        Charts.error(3, PORT + "voyage" + " a".repeat(16) + " ^a");
        Charts.error(3, PORT + "voyage" + " a".repeat(16) + "  ^a a a");
        Charts.error(1, PORT + "voyage" + " a".repeat(16) + " ^0");
        Charts.error(4, PORT + "voyage ^b");
        Charts.error(4, PORT + "voyage" + " a".repeat(15) + " ^b");
        Charts.error(1, PORT + "voyage a ^abcdefghi");
        Charts.error(1, PORT + "voyage a ^3");
        Charts.error(4, LAND + "voyage ^a");
        Check.same("3 one behind the other", "[1, 0, 1, 1]",
            Charts.voyage(good(PORT + "harbour b 0 1;voyage b a b b")).toString());
    }

    private static void voyageAtMostOnce() {
        Charts.error(3, PORT + "voyage a;^voyage a");
        Charts.error(3, PORT + "voyage a;turn 1; ^voyage a");
        Charts.error(3, PORT + "voyage a;^voyage");
        Charts.error(3, PORT + "voyage a;^voyage b");
        Charts.error(3, PORT + "voyage a;^voyage 9");
        PortolanChart chart = good(PORT + "voyage a");
        Check.same("3 in the next text it may stand again", 1, Charts.load(chart, PORT + "voyage a a"));
        Check.same("3 it did", 2, chart.size(7));
        Charts.load(chart, PORT + "voyage a;voyage a");
        Check.same("3 also behind an error", 1, Charts.load(chart, PORT + "voyage a"));
    }

    private static void turns() {
        Check.same("3 0 without it", 0, good("chart 3 3").size(8));
        for (int turn = 0; turn < 4; turn++) {
            Check.same("3 turn", turn, good("chart 3 3;turn " + turn).size(8));
        }
        Charts.error(2, "chart 3 3;turn ^4");
        Charts.error(2, "chart 3 3;turn ^10");
        Charts.error(1, "chart 3 3;turn^");
        Charts.error(1, "chart 3 3;turn ^up");
        Charts.error(1, "chart 3 3;turn 1 ^1");
        Check.same("3 the last one counts", 1, good("chart 3 3;turn 3;turn 2;turn 1").size(8));
        Check.same("3 it is no turning", 0, good("chart 3 3;turn 3;turn 1").size(10));
        PortolanChart chart = good("chart 3 3;turn 3");
        Charts.load(chart, "chart 3 3");
        Check.same("3 0 without it, also behind another text", 0, chart.size(8));
    }

    // ---- words, numbers and spaces ----

    private static void spaces() {
        good("  chart   3   3  ;  turn  2  ");
        good("chart3 3;land0 0 2;harbour a0 0red;turn2;place a right;voyage a");
        good("   chart 4 6 ; land 0 0 5 ; harbour a 0 0 ; harbour b 0 1 red ; river 0 4 ; voyage a b ; turn 1 ");
        Charts.error(2, "chart ^33");
        Charts.error(1, "chart 3 3;land 0 00^");
        Charts.error(1, "^chartland 3 3");
        Charts.error(1, PORT + "^voyagea");
        Charts.error(1, PORT + "^placea right");
        Charts.error(4, PORT + "place ^aright");
        Charts.error(4, PORT + "voyage ^aa");
        for (int sign : new int[] {1, 9, 10, 13, 31, 33, 127, 128, 160, 255}) {
            Charts.error(1, "^" + (char) sign + "chart 3 3");
            Charts.error(1, "chart^" + (char) sign + "3 3");
            Charts.error(1, "chart 3 3^" + (char) sign);
        }
    }

    private static void words() {
        for (String word : new String[] {"charx", "char", "charts", "xhart"}) {
            Charts.error(1, "^" + word + " 3 3");
        }
        for (String word : new String[] {"land", "harbour", "river", "place", "voyage", "turn"}) {
            int last = word.length() - 1;
            Charts.error(1, PORT + "^" + word.substring(0, last) + "x");
            Charts.error(1, PORT + "^" + word.substring(0, last));
            Charts.error(1, PORT + "^" + word + "s");
            Charts.error(1, PORT + "^" + "x" + word.substring(1));
            Charts.error(1, PORT + "^" + Character.toUpperCase(word.charAt(0)) + word.substring(1));
        }
        Charts.error(1, "^char");
        Charts.error(1, "^charT 3 3");
        Charts.error(1, "chart^T 3 3");
        Charts.error(1, "chart 3 3;turn^N 3");
        for (char sign : new char[] {'`', '{', '@', '[', '/', ':', '-', '+', '.'}) {
            Charts.error(1, "chart 3 3;turn ^" + sign + "1");
            Charts.error(1, "chart 3 3;turn 1^" + sign);
            Charts.error(1, LAND + "harbour ^" + sign + " 0 0");
        }
        Check.same("3 the letters a and z", "97 122", letters(good(LAND + "harbour az 0 0")));
    }

    private static String letters(PortolanChart chart) {
        return chart.letter(0, 0) + " " + chart.letter(0, 1);
    }

    private static void numbers() {
        good("chart 0003 000000000000000000012;turn 0000000000");
        good("chart 3 3;land 00 01 " + "0".repeat(400) + "2");
        Charts.error(2, "chart ^" + "9".repeat(400) + " 3");
        Charts.error(2, "chart 3 ^4294967299");
        Charts.error(2, "chart 3 ^18446744073709551619");
        Charts.error(2, "chart 3 ^1003");
        Charts.error(2, "chart 3 ^10003");
        Charts.error(2, "chart 3 3;turn ^4294967296");
        Charts.error(2, "chart 3 3;turn ^2147483648");
        Charts.error(2, "chart 3 3;land ^4294967296 0 0");
        Charts.error(2, "chart 3 3;turn ^0004");
        Check.same("3 the digits 0 and 9", 9, good("chart 09 10").size(0));
    }

    // ---- errors ----

    private static void theFirstErrorEndsIt() {
        Charts.error(2, "chart ^2 x");
        Charts.error(2, "chart ^2 2");
        Charts.error(2, "chart ^13;;");
        Charts.error(3, PORT + "harbour ^a 9 9 blue");
        Charts.error(2, PORT + "harbour b ^9 9 blue");
        Charts.error(3, PORT + "harbour b 3 ^0 blue");
        Charts.error(1, PORT + "harbour b 0 1 ^blue 1");
        Charts.error(4, PORT + "place ^b north");
        Charts.error(1, PORT + "place a ^north west");
        Charts.error(4, PORT + "voyage a ^b abcdefghi");
        Charts.error(3, PORT + "river 3 ^0;land");
    }

    private static void theSmallerNumberCounts() {
        Charts.error(1, PORT + "voyage" + " a".repeat(16) + " ^abcdefghi");
        Charts.error(3, PORT + "voyage" + " a".repeat(16) + " ^b");
        Charts.error(1, PORT + "voyage ^abcdefghi");
        Charts.error(1, PORT + "place ^abcdefghi right");
        Charts.error(2, LAND + "harbour a 3 ^6");
        Charts.error(2, LAND + "river 3 ^6");
        Charts.error(1, LAND + "harbour abcdefgh 0 0;harbour ^abcdefghi 0 0");
    }

    private static void theTextEndsTooEarly() {
        String[] texts = {"chart", "chart 3", "chart 3 3;land", "chart 3 3;land 0", "chart 3 3;land 0 0",
            LAND + "harbour", LAND + "harbour a", LAND + "harbour a 0", LAND + "river", LAND + "river 0",
            PORT + "place", PORT + "place a", PORT + "voyage", "chart 3 3;turn", "chart 3 3;", PORT};
        for (String text : texts) {
            Charts.error(1, text + "^");
            Charts.error(1, text + "   ^");
        }
    }

    private static void whatBelongsToWhichStatement() {
        PortolanChart chart = new PortolanChart();
        Check.same("4 no load yet", 0, chart.loadError());
        Check.same("5 no load yet", -1, chart.loadStatement());
        Charts.load(chart, "chart 3 3 ?;turn 1");
        Check.same("5 a byte behind a statement belongs to it", 0, chart.loadStatement());
        Charts.load(chart, "chart 3 3; ?turn 1");
        Check.same("5 what follows a semicolon belongs to the next one", 1, chart.loadStatement());
        Charts.load(chart, "chart 3 3;turn 1 ");
        Check.same("4 no error any more", 0, chart.loadError());
        Check.same("5 no statement any more", -1, chart.loadStatement());
        Charts.load(chart, "chart 3 3;turn 1; ");
        Check.same("5 the end of the text belongs to the next one", 2, chart.loadStatement());
        Charts.load(chart, "chart 3 3;turn 1;turn");
        Check.same("5 the end within a statement", 2, chart.loadStatement());
        Charts.load(chart, "chart 3 3" + ";turn 1".repeat(69) + ";");
        Check.same("5 the seventieth", 70, chart.loadStatement());
        Charts.load(chart, ";");
        Check.same("5 a semicolon ahead of all", 0, chart.loadStatement());
    }

    private static void nothingElseChangesOnAnError() {
        String[] texts = {"chart 5 5;", "chart 5 2", "chart 5 5;land 0 0 4;harbour q 0 0;harbour q 0 1",
            "chart 5 5;land 0 0 4;harbour q 0 0 red;turn 3;voyage q;place r up"};
        for (int kind = 1; kind <= 4; kind++) {
            PortolanChart chart = good(PORT + "harbour b 1 0 red;place a right;voyage a b;turn 2");
            chart.saveSnapshot(0);
            chart.read();
            chart.lift(0);
            chart.writeRow(0);
            String before = Charts.sizes(chart);
            Charts.load(chart, texts[kind - 1]);
            Check.same("4 the kind", kind, chart.loadError());
            Check.same("3 the sizes stay", before, Charts.sizes(chart));
            Check.same("3 the output stays", '@', chart.outputByte(0));
            Check.same("3 the input is empty", 0, chart.append(0));
            Check.same("3 the names stay", 97, chart.letter(0, 0));
            Check.same("3 the actions can be taken back", 1, chart.undo());
            Check.same("3 as they were", 1, chart.harbour(0, 2));
            Check.same("3 both", 0, chart.undo());
            Check.same("3 the place", 0, chart.size(9));
            Check.same("3 the snapshot stays", 2, chart.restoreSnapshot(0));
            Check.same("3 the other one is empty", -1, chart.restoreSnapshot(1));
            Check.same("4 the kind stays", kind, chart.loadError());
        }
    }

    private static void theBufferIsEmptied() {
        PortolanChart chart = new PortolanChart();
        Charts.type(chart, "chart 4 4");
        chart.load();
        Check.same("3 emptied", 0, chart.append(0));
        Check.same("3 so it is an empty text", -100, chart.load());
        Charts.type(chart, "chart 5 5;?");
        chart.load();
        Check.same("3 also on an error", 0, chart.append(0));
        Charts.type(chart, "chart 4 6");
        Check.same("3 an earlier, longer text leaves nothing", 0, chart.load());
        Charts.type(chart, "chart 5");
        Check.same("3 nor does it end a shorter one", -107, chart.load());
    }
}
