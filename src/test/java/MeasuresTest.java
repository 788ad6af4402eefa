/** Promises 46 to 49: the measures and the output. */
public final class MeasuresTest {
    private static final String TEXT = "chart 4 6;land 0 1 5;land 1 0 5;land 2 0 4;land 3 2 4;harbour abc 1 0 red;"
        + "harbour cab 0 3;voyage abc cab abc;turn 1";

    public static void main(String[] args) {
        meanTurn();
        cover();
        output();
        Check.end();
    }

    private static void meanTurn() {
        PortolanChart chart = Charts.of(TEXT);
        Check.sameNumber("46 none placed", 0.0, chart.meanTurn());
        chart.place(0, 1);
        Check.sameNumber("46 one quarter turn, two times", 0.5, chart.meanTurn());
        chart.setRed(0, false);
        chart.place(1, 2);
        Check.sameNumber("46 three quarter turns", 1.0, chart.meanTurn());
        chart.turnPage(0);
        Check.sameNumber("46 two of three", 2.0 / 3.0, chart.meanTurn());
        Check.sameNumber("46 no voyage", 0.0, new PortolanChart().meanTurn());
    }

    private static void cover() {
        PortolanChart chart = Charts.of(TEXT);
        Check.sameNumber("47 no letters", 0.0f, chart.cover());
        chart.place(0, 1);
        Check.sameNumber("47 three cells", 3.0f / 19.0f, chart.cover());
        chart.setRed(0, false);
        chart.place(1, 2);
        Check.sameNumber("47 a crossing is one cell", 5.0f / 19.0f, chart.cover());
        chart.addRiver(22);
        Check.sameNumber("47 rivers are land", 5.0f / 19.0f, chart.cover());
        chart.raise(0);
        Check.sameNumber("47 more land", 0.25f, chart.cover());
        Check.sameNumber("47 no land", 0.0f, new PortolanChart().cover());
    }

    private static void output() {
        PortolanChart chart = Charts.of(TEXT);
        Check.same("49 empty", -1, chart.outputByte(0));
        chart.place(0, 1);
        chart.addRiver(14);
        Check.same("48 a row", "~..@..", Charts.row(chart, 0));
        Check.same("48 red letters", "@ABC..", Charts.row(chart, 1));
        Check.same("48 the river", "..=..~", Charts.row(chart, 2));
        Check.same("48 sea", "~~=..~", Charts.row(chart, 3));
        chart.setRed(0, false);
        chart.place(1, 2);
        Check.same("48 other letters", "@abc..", Charts.row(chart, 1));
        Check.same("48 the bytes", "64 97 98 99 46 46", bytes(chart, 1));
        Check.same("48 a river, land and sea", "61 46 126",
            bytes(Charts.of("chart 3 3;land 0 0 1;river 0 0"), 0));
        Check.same("48 its length", 6, chart.writeRow(0));
        for (int index : new int[] {-1, 6, 11, 12, Integer.MIN_VALUE, Integer.MAX_VALUE}) {
            Check.same("49 no such byte", -1, chart.outputByte(index));
        }
        for (int row : new int[] {-1, 4, 12, Integer.MIN_VALUE, Integer.MAX_VALUE}) {
            Check.noIndex("48 row", () -> chart.writeRow(row));
        }
        Check.same("49 the output stays", 64, chart.outputByte(3));
        Check.same("48 no action", 4, chart.size(11));
        Charts.load(chart, "chart 12 12");
        Check.same("49 it stays on a load", 64, chart.outputByte(3));
        Check.same("48 a long row", 12, chart.writeRow(11));
        Check.same("49 its last byte", 126, chart.outputByte(11));
        Charts.load(chart, "chart 3 3");
        Check.same("48 a short row", 3, chart.writeRow(2));
        Check.same("49 in place of what it had", -1, chart.outputByte(3));
    }

    private static String bytes(PortolanChart chart, int row) {
        StringBuilder text = new StringBuilder();
        int length = chart.writeRow(row);
        for (int i = 0; i < length; i++) {
            text.append(i == 0 ? "" : " ").append(chart.outputByte(i));
        }
        return text.toString();
    }
}
