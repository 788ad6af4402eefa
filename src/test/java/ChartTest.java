/** Promises 6 to 11: what stands on the chart. */
public final class ChartTest {
    // ~..@..
    // @.....
    // .....~
    // ~~...~
    private static final String TEXT = "chart 4 6;land 0 1 5;land 1 0 5;land 2 0 4;land 3 2 4;harbour abc 1 0 red;"
        + "harbour cab 0 3;voyage abc cab abc;turn 3";

    public static void main(String[] args) {
        sizes();
        cells();
        harbours();
        rivers();
        Check.end();
    }

    private static void sizes() {
        PortolanChart chart = Charts.of(TEXT);
        Check.same("6 sizes", "4 6 19 2 0 0 0 3 3 0 0 0", Charts.sizes(chart));
        chart.place(0, 1);
        chart.addRiver(14);
        chart.read();
        chart.read();
        Check.same("6 sizes", "4 6 19 2 1 1 1 3 0 2 1 4", Charts.sizes(chart));
        chart.setRed(0, false);
        chart.turnPage(2);
        Check.same("6 sizes", "4 6 19 2 1 1 0 3 2 2 3 6", Charts.sizes(chart));
        chart.lift(0);
        chart.turnPage(2);
        chart.turnPage(2);
        Check.same("6 no more than 8 actions", "4 6 19 2 1 0 0 3 2 2 3 8", Charts.sizes(chart));
        for (int what : new int[] {-1, 12, Integer.MIN_VALUE, Integer.MAX_VALUE}) {
            Check.noArgument("6 size(" + what + ")", () -> chart.size(what));
        }
    }

    private static void cells() {
        PortolanChart chart = Charts.of(TEXT);
        chart.addRiver(15);
        chart.place(0, 1);
        Check.same("7 sea", "0 -1 -1 -1 0 0", numbers(chart, 0));
        Check.same("7 land", "1 -1 -1 -1 0 1", numbers(chart, 1));
        Check.same("7 a harbour", "1 0 -1 -1 0 1", numbers(chart, 6));
        Check.same("7 a harbour", "1 1 -1 -1 0 1", numbers(chart, 3));
        Check.same("7 a letter", "1 -1 -1 97 1 2", numbers(chart, 7));
        Check.same("7 a letter", "1 -1 -1 99 1 2", numbers(chart, 9));
        Check.same("7 a river", "2 -1 0 -1 0 2", numbers(chart, 15));
        Check.same("7 depth", "1 -1 -1 -1 0 2", numbers(chart, 10));
        chart.setRed(0, false);
        chart.dropRiver(0);
        chart.place(1, 2);
        Check.same("7 crossing names", "1 -1 -1 99 3 2", numbers(chart, 9));
        Check.same("7 the second letter", "1 -1 -1 97 2 2", numbers(chart, 15));
        PortolanChart big = Charts.of("chart 5 7;land 0 0 6;land 1 0 6;land 2 0 6;land 3 0 6;land 4 0 6");
        StringBuilder depths = new StringBuilder();
        for (int cell = 0; cell < 35; cell++) {
            depths.append(big.cell(cell, 5));
        }
        Check.same("7 depths", "11111111222221123332112222211111111", depths.toString());
        big.addRiver(17);
        Check.same("7 rivers are land for the depth", 3, big.cell(17, 5));
        Check.same("7 eroding", 0, big.erode(16));
        Check.same("7 sea", 0, big.cell(16, 5));
        Check.same("7 beside it", 1, big.cell(17, 5));
        Check.same("7 two steps from it", 2, big.cell(18, 5));
        for (int cell : new int[] {-1, 24, Integer.MIN_VALUE, Integer.MAX_VALUE}) {
            Check.noIndex("7 cell", () -> chart.cell(cell, 0));
            Check.noIndex("7 the cell is looked at first", () -> chart.cell(cell, 6));
        }
        for (int what : new int[] {-1, 6, Integer.MAX_VALUE}) {
            Check.noArgument("7 what", () -> chart.cell(0, what));
        }
    }

    private static String numbers(PortolanChart chart, int cell) {
        StringBuilder text = new StringBuilder();
        for (int what = 0; what < 6; what++) {
            text.append(what == 0 ? "" : " ").append(chart.cell(cell, what));
        }
        return text.toString();
    }

    private static void harbours() {
        PortolanChart chart = Charts.of(TEXT.replace("voyage abc cab abc", "harbour abcdefgh 2 0;voyage abc cab abc"));
        chart.place(0, 1);
        int[][] due = {{6, 1, 1, 3, 2}, {3, 0, -1, 3, 1}, {12, 0, -1, 8, 0}};
        for (int harbour = 0; harbour < 3; harbour++) {
            for (int what = 0; what < 5; what++) {
                Check.same("8 harbour(" + harbour + ", " + what + ")", due[harbour][what],
                    chart.harbour(harbour, what));
            }
        }
        for (int harbour : new int[] {-1, 3, Integer.MIN_VALUE, Integer.MAX_VALUE}) {
            Check.noIndex("8 harbour", () -> chart.harbour(harbour, 0));
            Check.noIndex("8 the harbour is looked at first", () -> chart.harbour(harbour, 5));
            Check.noIndex("9 letter", () -> chart.letter(harbour, 0));
        }
        for (int what : new int[] {-1, 5, Integer.MIN_VALUE}) {
            Check.noArgument("8 what", () -> chart.harbour(0, what));
        }
        for (int i = 0; i < 8; i++) {
            Check.same("9 letter", 'a' + i, chart.letter(2, i));
        }
        Check.same("9 first letter", 'c', chart.letter(1, 0));
        Check.same("9 last letter", 'b', chart.letter(1, 2));
        for (int index : new int[] {-1, 3, 8, Integer.MIN_VALUE, Integer.MAX_VALUE}) {
            Check.same("9 no letter", -1, chart.letter(1, index));
        }
        Check.same("9 no ninth letter", -1, chart.letter(2, 8));
    }

    private static void rivers() {
        PortolanChart chart = Charts.of(TEXT);
        chart.addRiver(8);
        chart.addRiver(14);
        Check.same("10 a river from its source on", "[8, 2]", Charts.river(chart, 0).toString());
        Check.same("10 the next one", "[14]", Charts.river(chart, 1).toString());
        for (int index : new int[] {-1, 2, Integer.MIN_VALUE, Integer.MAX_VALUE}) {
            Check.same("10 no cell", -1, chart.river(0, index));
        }
        for (int river : new int[] {-1, 2, Integer.MIN_VALUE, Integer.MAX_VALUE}) {
            Check.noIndex("10 no river", () -> chart.river(river, 0));
        }
        Check.same("11 the voyage", "[0, 1, 0]", Charts.voyage(chart).toString());
        for (int index : new int[] {-1, 3, Integer.MIN_VALUE, Integer.MAX_VALUE}) {
            Check.same("11 no stop", -1, chart.voyage(index));
        }
    }
}
