/** Promises 50 to 52: undo and the snapshots. */
public final class PastTest {
    private static final String TEXT = "chart 5 6;land 0 0 5;land 1 0 5;land 2 0 5;land 3 0 5;land 4 1 4;"
        + "harbour ab 2 0;harbour xb 0 2 red;harbour c 0 0;river 4 4;river 3 4;place ab right;place c down;"
        + "voyage ab xb c ab;turn 1";

    private interface Action {
        Object on(PortolanChart chart);
    }

    public static void main(String[] args) {
        eachAction();
        refusals();
        eightActions();
        snapshots();
        corner();
        Check.end();
    }

    private static final Action[] ACTIONS = {
        chart -> chart.place(2, 1),
        chart -> chart.place(0, 1),
        chart -> chart.lift(0),
        chart -> chart.arrange(),
        chart -> chart.setRed(0, true),
        chart -> chart.setRed(1, false),
        chart -> chart.addRiver(14),
        chart -> chart.addRiver(8),
        chart -> chart.dropRiver(0),
        chart -> chart.erode(13),
        chart -> chart.raise(24),
        chart -> chart.sail(1),
        chart -> chart.cut(0),
        chart -> chart.turnPage(3),
        chart -> chart.turnPage(1),
        chart -> chart.read(),
    };

    private static void eachAction() {
        for (int i = 0; i < ACTIONS.length; i++) {
            PortolanChart chart = Charts.of(TEXT);
            chart.read();
            chart.read();
            String before = Charts.state(chart);
            String answer = Check.answer(call(i, chart));
            String then = Charts.state(chart);
            Check.same("50 action " + i + " was done", true, !answer.startsWith("throws") && !answer.equals("-3"));
            Check.same("6 action " + i + " counts", 3, chart.size(11));
            Check.same("50 undo of " + i, 2, chart.undo());
            Check.same("50 as before " + i, before, Charts.state(chart));
            Check.same("50 the same again " + i, answer, Check.answer(call(i, chart)));
            Check.same("50 with the same outcome " + i, then, Charts.state(chart));
        }
    }

    private static Check.Call call(int action, PortolanChart chart) {
        return () -> ACTIONS[action].on(chart);
    }

    private static void refusals() {
        PortolanChart chart = Charts.of(TEXT);
        chart.lift(0);
        String before = Charts.state(chart);
        Action[] refused = {
            it -> it.place(0, 0), it -> it.place(9, 0), it -> it.place(0, 9), it -> it.lift(0), it -> it.lift(-1),
            it -> it.setRed(3, true), it -> it.addRiver(0), it -> it.addRiver(30), it -> it.dropRiver(2),
            it -> it.erode(0), it -> it.erode(-1), it -> it.raise(0), it -> it.raise(30), it -> it.sail(3),
            it -> it.cut(4), it -> it.turnPage(4), it -> it.saveSnapshot(2), it -> it.restoreSnapshot(-1),
            it -> it.restoreSnapshot(1),
        };
        for (Action action : refused) {
            Check.answer(() -> action.on(chart));
            Check.same("what is refused does not count", 1, chart.size(11));
            Check.same("what is refused changes nothing", before, Charts.state(chart));
        }
        Check.same("50 the action ahead of them", 0, chart.undo());
        Check.same("50 it is placed again", 1, chart.harbour(0, 2));
        Check.same("50 nothing more", -1, chart.undo());
        Check.same("50 nothing changed", 1, chart.harbour(0, 2));
    }

    private static void eightActions() {
        PortolanChart chart = Charts.of(TEXT);
        String[] states = new String[12];
        for (int i = 0; i < 12; i++) {
            states[i] = Charts.state(chart);
            chart.sail(i % 3);
        }
        Check.same("6 eight of twelve", 8, chart.size(11));
        chart.writeRow(2);
        for (int i = 11; i >= 4; i--) {
            Check.same("50 how many are left", i - 4, chart.undo());
            Check.same("50 the output stays", '@', chart.outputByte(0));
            Check.same("50 as it was", states[i], Charts.state(chart));
            chart.writeRow(2);
        }
        Check.same("50 none is left", -1, chart.undo());
        Check.same("50 nothing changed", states[4], Charts.state(chart));
        chart.turnPage(2);
        chart.turnPage(3);
        Check.same("50 new actions", 1, chart.undo());
        chart.read();
        Check.same("50 then", 1, chart.undo());
        Check.same("50 and then", 0, chart.undo());
        Check.same("50 as it was", states[4], Charts.state(chart));
    }

    private static void corner() {
        PortolanChart chart = Charts.of("chart 3 6;land 0 0 3;harbour abc 0 3;place abc left");
        chart.saveSnapshot(0);
        chart.lift(0);
        Check.same("50 lifted", 0, chart.drowns(0));
        chart.undo();
        Check.same("50 the letter in the corner", 1, chart.drowns(0));
        chart.lift(0);
        chart.erode(0);
        chart.restoreSnapshot(0);
        Check.same("52 the letter in the corner", "cba@~~", Charts.row(chart, 0));
        chart.erode(0);
        Check.same("40 the letter in the corner", 0, chart.size(5));
        chart.undo();
        Check.same("50 land in the corner", 1, chart.cell(0, 0));
        Check.same("50 and the letter", 'c', chart.cell(0, 3));
    }

    private static void snapshots() {
        PortolanChart chart = Charts.of(TEXT);
        chart.read();
        chart.read();
        String first = Charts.state(chart);
        Check.same("51 the harbours", 3, chart.saveSnapshot(0));
        Check.same("51 no action", 2, chart.size(11));
        chart.arrange();
        chart.dropRiver(1);
        chart.raise(24);
        chart.cut(1);
        chart.setRed(2, true);
        String second = Charts.state(chart);
        Check.same("51 the other slot", 3, chart.saveSnapshot(1));
        chart.undo();
        Check.same("51 the actions stay", 6, chart.size(11));
        chart.append('c');
        chart.writeRow(0);
        Check.same("52 the harbours", 3, chart.restoreSnapshot(0));
        Check.same("52 the output stays", '@', chart.outputByte(0));
        Check.same("52 the input stays", 2, chart.append('x'));
        Check.same("52 nothing can be taken back", -1, chart.undo());
        Check.same("52 as it was", first, Charts.state(chart));
        chart.lift(0);
        chart.erode(8);
        chart.turnPage(0);
        chart.sail(2);
        Check.same("52 once more", 3, chart.restoreSnapshot(0));
        Check.same("52 the snapshot stayed", first, Charts.state(chart));
        Check.same("3 a bad text", -100, chart.load());
        Check.same("52 the other one", 3, chart.restoreSnapshot(1));
        Check.same("52 as it was then", second, Charts.state(chart));
        Check.same("52 the results of load stay", 1, chart.loadError());
        Check.same("52 the results of load stay", 0, chart.loadStatement());
        Charts.load(chart, "chart 3 3");
        Check.same("51 over an old one", 0, chart.saveSnapshot(0));
        Check.same("52 the other one stays", 3, chart.restoreSnapshot(1));
        Check.same("52 as it was then", second, Charts.state(chart));
        Check.same("52 the new one", 0, chart.restoreSnapshot(0));
        Check.same("52 three rows", "3 3 0 0 0 0 0 0 0 0 0 0", Charts.sizes(chart));
        PortolanChart empty = Charts.of(TEXT);
        empty.read();
        Check.same("52 nothing was saved", -1, empty.restoreSnapshot(0));
        Check.same("52 the actions stay", 1, empty.size(11));
        for (int slot : new int[] {-1, 2, Integer.MIN_VALUE, Integer.MAX_VALUE}) {
            Check.noArgument("51 slot", () -> chart.saveSnapshot(slot));
            Check.noArgument("52 slot", () -> chart.restoreSnapshot(slot));
        }
    }
}
