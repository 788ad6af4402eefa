/** Promises 3 to 5: load, and the errors of descriptions (section 4). */
public final class LoadTest {
    private static final String BASE = "chart 4 6;land 0 0 5;land 1 0 5";

    public static void main(String[] args) {
        good();
        badTexts();
        badRanges();
        badPlaces();
        noNames();
        firstErrorCounts();
        whatStays();
        twoTexts();
        Check.end();
    }

    private static void error(String text, int kind, int position, int statement) {
        PortolanChart chart = new PortolanChart();
        Check.same("3 load of " + text, -100 - position, Charts.load(chart, text));
        Check.same("4 kind of " + text, kind, chart.loadError());
        Check.same("5 statement of " + text, statement, chart.loadStatement());
    }

    /** An error right at the end of the text behind a base that is good. */
    private static void errorIn(String base, String more, int kind, int offset) {
        int statement = 0;
        for (int i = 0; i < base.length() + 1 + offset; i++) {
            statement += (base + ";" + more + " ").charAt(i) == ';' ? 1 : 0;
        }
        error(base + ";" + more, kind, base.length() + 1 + offset, statement);
    }

    private static void good() {
        PortolanChart chart = new PortolanChart();
        Check.same("3 chart alone", 0, Charts.load(chart, "chart 12 3"));
        Check.same("3 sizes", "12 3 0 0 0 0 0 0 0 0 0 0", Charts.sizes(chart));
        Check.same("3 all statements", 3, Charts.load(chart, BASE + ";turn 1;harbour red 0 0 red;harbour chart 1 5;"
            + "harbour abcdefgh 0 4;river 1 2;place red right;turn 3;voyage chart red red chart"));
        Check.same("4 no error", 0, chart.loadError());
        Check.same("5 no statement", -1, chart.loadStatement());
        Check.same("3 sizes", "4 6 12 3 1 1 1 4 3 0 0 0", Charts.sizes(chart));
        Check.same("3 picture", "@RED@./..=..@/~~~~~~/~~~~~~", Charts.picture(chart));
        Check.same("3 no space where none is needed", 1,
            Charts.load(chart, "chart4 6;land0 0 5;harbour a0 0red;voyage a;turn2"));
        Check.same("3 turn", 2, chart.size(8));
        Check.same("3 red", 1, chart.harbour(0, 1));
        Check.same("3 spaces wherever they may be", 1, Charts.load(chart,
            "  chart  4   6 ;  land 0 0 5  ; harbour a  0 0   red ;place a   right;voyage a a  ; turn 0 "));
        Check.same("3 the place", 1, chart.harbour(0, 2));
        Check.same("3 numbers with zeros ahead", 1, Charts.load(chart, "chart 004 0000000000006;land 00 000 05;"
            + "harbour a 0000000000000000 00;turn 03"));
        Check.same("3 turn", 3, chart.size(8));
        Check.same("3 land behind a turn", 0, Charts.load(chart, "chart 3 3;turn 1;land 1 1 1;turn 2;land 0 0 0"));
        Check.same("3 both", 2, chart.size(2));
        Check.same("3 the last turn", 2, chart.size(8));
        Check.same("3 eight harbours, eight rivers, sixteen stops", 8, Charts.load(chart,
            "chart 12 12;land 0 0 11;land 11 0 11;" + harbours(8) + rivers(8) + ";voyage" + " a b c d".repeat(4)));
        Check.same("3 eight rivers", 8, chart.size(4));
        Check.same("3 sixteen stops", 16, chart.size(7));
        Check.same("3 a name is placed in place of how it was", 1,
            Charts.load(chart, BASE + ";harbour a 0 0;place a right;place a down;place a down"));
        Check.same("3 down", 2, chart.harbour(0, 2));
        Check.same("3 only there", 1, chart.size(5));
        Check.same("3 a river washes names away", 1,
            Charts.load(chart, BASE + ";harbour a 0 0;place a right;river 0 1"));
        Check.same("3 none is placed", 0, chart.size(5));
        Check.same("3 the river is there", 1, chart.size(4));
    }

    private static String harbours(int count) {
        StringBuilder text = new StringBuilder();
        for (int i = 0; i < count; i++) {
            text.append(i == 0 ? "" : ";").append("harbour ").append((char) ('a' + i)).append(" 0 ").append(i);
        }
        return text.toString();
    }

    private static String rivers(int count) {
        StringBuilder text = new StringBuilder();
        for (int i = 0; i < count; i++) {
            text.append(";river 11 ").append(i);
        }
        return text.toString();
    }

    private static void badTexts() {
        error("", 1, 0, 0);
        error("   ", 1, 3, 0);
        error(";", 1, 0, 0);
        error("land 0 0 0", 1, 0, 0);
        error("  charts 4 4", 1, 2, 0);
        error("char", 1, 0, 0);
        error("Chart 4 4", 1, 0, 0);
        error("chart", 1, 5, 0);
        error("chart ", 1, 6, 0);
        error("chart 4", 1, 7, 0);
        error("chart x 4", 1, 6, 0);
        error("chart 4;4", 1, 7, 0);
        error("chart 4 6 7", 1, 10, 0);
        error("chart 4 6 land", 1, 10, 0);
        error("chart 4 6,", 1, 9, 0);
        error("chart 4 6;", 1, 10, 1);
        error("chart 4 6;  ", 1, 12, 1);
        error("chart 4 6;;land 0 0 0", 1, 10, 1);
        error("chart 4 6;chart 4 6", 1, 10, 1);
        error("chart 4 6; island 0", 1, 11, 1);
        error("chart 4 6;7", 1, 10, 1);
        error("xhart 4 6", 1, 0, 0);
        for (String word : new String[] {"xand", "xarbour", "xiver", "xlace", "xoyage", "xurn", "lan", "landx", "Land"}) {
            error("chart 4 6;" + word + " 0 0 0", 1, 10, 1);
        }
        error("chart 4 6\t", 1, 9, 0);
        error("chart 4 6;land 0 0 5;turn 0;~", 1, 28, 3);
        error("chart 4 6;turn 1 turn 2", 1, 17, 1);
        error("chart 4 6;land 0 0", 1, 18, 1);
        error("chart 4 6;land 0 0 5 5", 1, 21, 1);
        error("chart 4 6;land -1 0 0", 1, 15, 1);
        String base = BASE + ";harbour a 0 0";
        errorIn(base, "harbour", 1, 7);
        errorIn(base, "harbour 0 1", 1, 8);
        errorIn(base, "harbour abcdefghi 0 1", 1, 8);
        errorIn(base, "harbour b", 1, 9);
        errorIn(base, "harbour b red", 1, 10);
        errorIn(base, "harbour b 0 red", 1, 12);
        errorIn(base, "harbour b 0 1 blue", 1, 14);
        errorIn(base, "harbour b 0 1 redder", 1, 14);
        errorIn(base, "harbour b 0 1 red red", 1, 18);
        errorIn(base, "harbour b 0 1 2", 1, 14);
        errorIn(base, "harbour bB 0 1", 1, 9);
        errorIn(base, "river 0", 1, 7);
        errorIn(base, "river a", 1, 6);
        errorIn(base, "place", 1, 5);
        errorIn(base, "place 1 up", 1, 6);
        errorIn(base, "place a", 1, 7);
        errorIn(base, "place a 1", 1, 8);
        errorIn(base, "place a rights", 1, 8);
        errorIn(base, "place a righ", 1, 8);
        errorIn(base, "place aaaaaaaaa right", 1, 6);
        errorIn(base, "place a right right", 1, 14);
        errorIn(base, "place a xight", 1, 8);
        errorIn(base, "harbour b 0 1 xed", 1, 14);
        errorIn(base, "voyage", 1, 6);
        errorIn(base, "voyage ;", 1, 7);
        errorIn(base, "voyage a 1", 1, 9);
        errorIn(base, "voyage abcdefghi", 1, 7);
        errorIn(base, "voyage a,", 1, 8);
        errorIn(base, "turn", 1, 4);
        errorIn(base, "turn up", 1, 5);
        errorIn(base, "turn 1 2", 1, 7);
    }

    private static void badRanges() {
        error("chart 2 6", 2, 6, 0);
        error("chart 13 6", 2, 6, 0);
        error("chart 4 2", 2, 8, 0);
        error("chart 4 13", 2, 8, 0);
        error("chart 46", 2, 6, 0);
        error("chart 4294967300 6", 2, 6, 0);
        error("chart 18446744073709551620 6", 2, 6, 0);
        error("chart 4 6;land 4 0 0", 2, 15, 1);
        error("chart 4 6;land 0 6 6", 2, 17, 1);
        error("chart 4 6;land 0 3 6", 2, 19, 1);
        error("chart 4 6;land 0 3 2", 2, 19, 1);
        errorIn(BASE, "harbour a 4 0", 2, 10);
        errorIn(BASE, "harbour a 0 6", 2, 12);
        errorIn(BASE, "river 4 0", 2, 6);
        errorIn(BASE, "river 0 6", 2, 8);
        errorIn(BASE, "turn 4", 2, 5);
        errorIn(BASE, "turn 4294967296", 2, 5);
    }

    private static void badPlaces() {
        String base = BASE + ";harbour a 0 0";
        errorIn(base, "harbour a 0 1", 3, 8);
        errorIn(base, "harbour b 2 0", 3, 12);
        errorIn(base, "harbour b 0  0", 3, 13);
        errorIn(base + ";place a right", "harbour b 0 1", 3, 12);
        errorIn(base + ";river 0 3", "harbour b 0 3", 3, 12);
        errorIn("chart 3 3;land 0 0 2;land 1 0 2;land 2 0 2", "harbour b 1 1", 3, 12);
        errorIn(base, "river 0 0", 3, 8);
        errorIn(base, "river 3 1", 3, 8);
        errorIn(base + ";river 0 3", "river 0 3", 3, 8);
        errorIn("chart 3 3;land 0 0 2;land 1 0 2;land 2 0 2;harbour a 0 1;harbour b 1 0;harbour c 1 2;harbour d 2 1",
            "river 1 1", 3, 8);
        errorIn(base, "place a up", 3, 8);
        errorIn(base, "place a left", 3, 8);
        errorIn(BASE + ";harbour abcdef 0 0", "place abcdef right", 3, 13);
        errorIn(base + ";harbour b 0 1", "place a right", 3, 8);
        errorIn(base + ";river 0 1", "place a right", 3, 8);
        errorIn(BASE + ";harbour aa 0 0", "place aa down", 3, 9);
        errorIn(BASE + ";harbour xa 1 0;harbour b 0 2;place xa right", "place b down", 3, 8);
        errorIn(BASE + ";harbour xa 1 0;harbour a 0 2 red;place xa right", "place a down", 3, 8);
        errorIn(base, "land 1 0 0", 3, 0);
        errorIn(base, "  land", 3, 2);
        errorIn(BASE + ";river 0 0", "land x", 3, 0);
        errorIn(base + ";voyage a", "voyage a", 3, 0);
        errorIn(base + ";voyage a", "voyage 7", 3, 0);
        errorIn("chart 3 12;land 0 0 11;" + harbours(8), "harbour a 0 0", 3, 0);
        errorIn("chart 3 12;land 0 0 11;" + harbours(8), "harbour", 3, 0);
        errorIn("chart 12 12;land 11 0 11" + rivers(8), "river 11 9", 3, 0);
        errorIn("chart 12 12;land 11 0 11" + rivers(8), "river x", 3, 0);
        errorIn(base, "voyage" + " a".repeat(17), 3, 39);
        errorIn(base, "voyage" + " a".repeat(16) + " b", 3, 39);
        errorIn(base, "voyage" + " a".repeat(16) + " bcdefghij", 1, 39);
        errorIn(base, "voyage" + " a".repeat(16) + " 9", 1, 39);
    }

    private static void noNames() {
        String base = BASE + ";harbour ab 0 0";
        errorIn(base, "place a up", 4, 6);
        errorIn(base, "place abc", 4, 6);
        errorIn(base, "place ba 1", 4, 6);
        errorIn(base, "voyage a", 4, 7);
        errorIn(base, "voyage ab abc ab", 4, 10);
        errorIn(BASE, "voyage b", 4, 7);
    }

    private static void firstErrorCounts() {
        error("chart 4 2 x", 2, 8, 0);
        error("chart 2 x", 2, 6, 0);
        errorIn(BASE, "harbour a 0 9 x", 2, 12);
        errorIn(BASE, "harbour a 3 0 x", 3, 12);
        errorIn(BASE, "river 3 0 x", 3, 8);
        errorIn(BASE, "place a x", 4, 6);
    }

    /** A letter in the corner cell 0, red harbours and a voyage of an earlier text leave no trace. */
    private static void twoTexts() {
        PortolanChart chart = Charts.of("chart 3 6;land 0 0 3;land 1 0 0;harbour abc 0 3 red;harbour d 1 0;"
            + "place abc left;voyage abc d;turn 2");
        Check.same("7 the letter in the corner", 'c', chart.cell(0, 3));
        Check.same("3 one harbour", 1, Charts.load(chart, "chart 3 6;land 0 0 3;harbour ab 0 3"));
        Check.same("3 no letter", "1 -1 -1 -1 0 1", numbers(chart));
        Check.same("3 not red, not placed", "0 -1", chart.harbour(0, 1) + " " + chart.harbour(0, 2));
        Check.same("3 all is new", "3 6 4 1 0 0 0 0 0 0 0 0", Charts.sizes(chart));
        Check.same("3 a river in the corner", 0, Charts.load(chart, "chart 3 6;land 0 0 3;river 0 0"));
        Check.same("7 the river in the corner", "2 -1 0 -1 0 1", numbers(chart));
        Check.same("3 no river any more", 0, Charts.load(chart, "chart 3 6;land 0 0 3"));
        Check.same("7 land in the corner", "1 -1 -1 -1 0 1", numbers(chart));
        Check.same("3 sea", 0, Charts.load(chart, "chart 3 6"));
        Check.same("7 sea in the corner", "0 -1 -1 -1 0 0", numbers(chart));
    }

    private static String numbers(PortolanChart chart) {
        StringBuilder text = new StringBuilder();
        for (int what = 0; what < 6; what++) {
            text.append(what == 0 ? "" : " ").append(chart.cell(0, what));
        }
        return text.toString();
    }

    private static void whatStays() {
        PortolanChart chart = Charts.of(BASE + ";harbour a 0 0;voyage a a;turn 2");
        chart.saveSnapshot(1);
        chart.place(0, 1);
        chart.read();
        chart.writeRow(0);
        String before = Charts.state(chart);
        chart.writeRow(1);
        Check.same("3 an error", -110, Charts.load(chart, "chart 4 6;"));
        Check.same("3 the actions stay on an error", 2, chart.size(11));
        Check.same("3 the output stays", '.', chart.outputByte(3));
        Check.same("3 the chart stays", before, Charts.state(chart));
        Check.same("3 the buffer is emptied on an error", 1, chart.append(' '));
        Check.same("3 a good text", 1, Charts.load(chart, "chart 5 3;land 0 0 2;harbour b 0 1 red;voyage b;turn 1"));
        Check.same("4 the error is gone", 0, chart.loadError());
        Check.same("5 the statement is gone", -1, chart.loadStatement());
        Check.same("3 begins anew", "5 3 3 1 0 0 0 1 1 0 0 0", Charts.sizes(chart));
        Check.same("3 nothing can be taken back", -1, chart.undo());
        Check.same("3 the buffer is emptied", 1, chart.append(' '));
        Check.same("3 the output is still there", 3, Charts.row(chart, 0).length());
        Check.same("3 the snapshot stays", 1, chart.restoreSnapshot(1));
        Check.same("3 and is the old chart", "4 6 12 1 0 0 0 2 2 0 0 0", Charts.sizes(chart));
    }
}
