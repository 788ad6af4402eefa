import java.util.ArrayList;
import java.util.List;

/** Makes charts from descriptions and reads whole answers from them. */
final class Charts {
    private Charts() {
    }

    static void type(PortolanChart chart, String text) {
        for (int start = 0; start < text.length(); start += 8) {
            long bytes = 0;
            for (int i = start; i < Math.min(start + 8, text.length()); i++) {
                bytes = bytes << 8 | text.charAt(i) & 255;
            }
            chart.append(bytes);
        }
    }

    static int load(PortolanChart chart, String text) {
        type(chart, text);
        return chart.load();
    }

    static PortolanChart of(String text) {
        PortolanChart chart = new PortolanChart();
        int harbours = load(chart, text);
        if (harbours < 0) {
            Check.same("load of " + text, 0, harbours);
        }
        return chart;
    }

    /** A description in which every cell is land. */
    static String allLand(int rows, int columns) {
        StringBuilder text = new StringBuilder("chart " + rows + " " + columns);
        for (int row = 0; row < rows; row++) {
            text.append(";land ").append(row).append(" 0 ").append(columns - 1);
        }
        return text.toString();
    }

    /** Loads a text in which the sign ^ marks where its error is (the sign itself is left out). */
    static void error(int kind, String marked) {
        int position = marked.indexOf('^');
        String text = marked.substring(0, position) + marked.substring(position + 1);
        int statement = 0;
        for (int i = 0; i < position; i++) {
            statement += marked.charAt(i) == ';' ? 1 : 0;
        }
        PortolanChart chart = new PortolanChart();
        Check.same("3 load of " + marked, -100 - position, load(chart, text));
        Check.same("4 loadError of " + marked, kind, chart.loadError());
        Check.same("5 loadStatement of " + marked, statement, chart.loadStatement());
        Check.same("3 nothing but the buffer changes by " + marked, "3 3 0 0 0 0 0 0 0 0 0 0", sizes(chart));
    }

    static String row(PortolanChart chart, int row) {
        int length = chart.writeRow(row);
        StringBuilder text = new StringBuilder();
        for (int i = 0; i < length; i++) {
            text.append((char) chart.outputByte(i));
        }
        return text.toString();
    }

    static String picture(PortolanChart chart) {
        StringBuilder text = new StringBuilder();
        for (int row = 0; row < chart.size(0); row++) {
            text.append(row == 0 ? "" : "/").append(row(chart, row));
        }
        return text.toString();
    }

    static List<Integer> river(PortolanChart chart, int river) {
        List<Integer> cells = new ArrayList<>();
        for (int i = 0; chart.river(river, i) != PortolanChart.NONE; i++) {
            cells.add(chart.river(river, i));
        }
        return cells;
    }

    static List<Integer> way(PortolanChart chart, int cell) {
        List<Integer> cells = new ArrayList<>();
        for (int i = 0; chart.wayCell(cell, i) != PortolanChart.NONE; i++) {
            cells.add(chart.wayCell(cell, i));
        }
        return cells;
    }

    static List<Integer> voyage(PortolanChart chart) {
        List<Integer> stops = new ArrayList<>();
        for (int i = 0; chart.voyage(i) != PortolanChart.NONE; i++) {
            stops.add(chart.voyage(i));
        }
        return stops;
    }

    static String sizes(PortolanChart chart) {
        StringBuilder text = new StringBuilder();
        for (int what = 0; what < 12; what++) {
            text.append(what == 0 ? "" : " ").append(chart.size(what));
        }
        return text.toString();
    }

    /** All that a snapshot holds, as a text. */
    static String state(PortolanChart chart) {
        StringBuilder text = new StringBuilder(picture(chart));
        for (int what = 0; what < 11; what++) {
            text.append(' ').append(chart.size(what));
        }
        for (int harbour = 0; harbour < chart.size(3); harbour++) {
            text.append(" h");
            for (int what = 0; what < 5; what++) {
                text.append(chart.harbour(harbour, what)).append(',');
            }
            for (int i = 0; i < chart.harbour(harbour, 3); i++) {
                text.append((char) chart.letter(harbour, i));
            }
        }
        for (int river = 0; river < chart.size(4); river++) {
            text.append(" r").append(river(chart, river));
        }
        return text.append(' ').append(voyage(chart)).toString();
    }
}
