/** Promises 1 and 2: a new object, and append. */
public final class NewAndInputTest {
    public static void main(String[] args) {
        newObject();
        append();
        Check.end();
    }

    private static void newObject() {
        PortolanChart chart = new PortolanChart();
        Check.same("1 sizes", "3 3 0 0 0 0 0 0 0 0 0 0", Charts.sizes(chart));
        Check.same("1 all sea", "~~~/~~~/~~~", Charts.picture(chart));
        chart = new PortolanChart();
        Check.same("1 empty output", -1, chart.outputByte(0));
        Check.same("1 no error yet", 0, chart.loadError());
        Check.same("1 no statement yet", -1, chart.loadStatement());
        Check.same("1 nothing to take back", -1, chart.undo());
        Check.same("1 no snapshot 0", -1, chart.restoreSnapshot(0));
        Check.same("1 no snapshot 1", -1, chart.restoreSnapshot(1));
        Check.same("1 empty voyage", -1, chart.voyage(0));
        Check.same("1 empty input", 1, chart.append('x'));
    }

    private static void append() {
        PortolanChart chart = new PortolanChart();
        Check.same("2 no bytes", 0, chart.append(0));
        Check.same("2 one byte in front", 1, chart.append((long) 'c' << 56));
        Check.same("2 zeros between", 4, chart.append(0x0068000061007200L));
        Check.same("2 then", 8, chart.append(0x74203420L));
        Check.same("2 last", 9, chart.append('5'));
        Check.same("2 in its order", 0, chart.load());
        Check.same("2 the text was chart 4 5", "4 5", chart.size(0) + " " + chart.size(1));
        Check.same("2 emptied by load", 8, chart.append(-1L));
        Check.same("2 high bytes count", -100, chart.load());
        for (int length = 8; length <= 496; length += 8) {
            Check.same("2 more", length, chart.append(0x2020202020202020L));
        }
        Check.same("2 five do not fit", -2, chart.append(0x2020202020L));
        Check.same("2 nothing was added", 499, chart.append(0x2000002000002000L));
        Check.same("2 two do not fit", -2, chart.append(0x2020L));
        Check.same("2 the last one fits", 500, chart.append(0x20L));
        Check.same("2 nothing still fits", 500, chart.append(0L));
        Check.same("2 full", -2, chart.append(0x20L));
        Check.same("2 all were read", -600, chart.load());
        Check.same("2 begins again", 1, chart.append(0x20L));
    }
}
