import java.util.Random;

/** Runs of random calls, put to the program and to the model. */
final class Runs {
    static final String[] NAMES = {"append", "load", "loadError", "loadStatement", "size", "cell", "harbour", "letter",
        "river", "voyage", "why", "ways", "room", "crossings", "crossed", "free", "upright", "turning", "turningFrom",
        "bestTurn", "hardest", "least", "placedThen", "arranged", "leastIf", "placedIf", "shy", "wayLength", "wayCell",
        "washes", "mildest", "drowns", "place", "lift", "arrange", "setRed", "addRiver", "dropRiver", "erode", "raise",
        "sail", "cut", "turnPage", "read", "meanTurn", "cover", "writeRow", "outputByte", "undo", "saveSnapshot",
        "restoreSnapshot"};
    private static final int FIRST_ACTION = 32;
    private static final int LAST_ACTION = 43;

    private final Random random;
    private final RandomText texts;
    private final StringBuilder told = new StringBuilder();
    private PortolanChart chart;
    private Model model;

    Runs(long seed) {
        random = new Random(seed);
        texts = new RandomText(random);
    }

    /** Makes one run; tells whether all answers were alike. */
    boolean run(int calls) {
        chart = new PortolanChart();
        model = new Model();
        told.setLength(0);
        boolean alike = type(texts.next()) && one("load", 0, 0);
        for (int call = 0; call < calls && alike; call++) {
            int kind = random.nextInt(100);
            if (kind == 0) {
                alike = type(texts.next()) && one("load", 0, 0) && one("loadError", 0, 0)
                    && one("loadStatement", 0, 0);
            } else if (kind < 45) {
                alike = any(NAMES[FIRST_ACTION + random.nextInt(LAST_ACTION - FIRST_ACTION + 1)]);
            } else if (kind < 55) {
                alike = any("place");
            } else if (kind < 60) {
                alike = all();
            } else {
                alike = any(NAMES[2 + random.nextInt(NAMES.length - 2)]);
            }
        }
        return alike && all();
    }

    private boolean type(String text) {
        told.append("\n  text ").append(text);
        for (int start = 0; start < text.length(); start += 7) {
            long bytes = 0;
            for (int i = start; i < Math.min(start + 7, text.length()); i++) {
                bytes = bytes << 8 + 8 * (i % 11 == 0 ? 1 : 0) | text.charAt(i) & 255;
            }
            if (!one("append", bytes, 0)) {
                return false;
            }
        }
        return true;
    }

    private int about(int count) {
        return random.nextInt(25) == 0 ? -2 + random.nextInt(count + 5) : count == 0 ? 0 : random.nextInt(count);
    }

    private boolean any(String name) {
        int ports = model.state.ports.size();
        int cells = model.state.rows * model.state.columns;
        switch (name) {
            case "size": return one(name, about(12), 0);
            case "cell": return one(name, about(cells), about(6));
            case "harbour": return one(name, about(ports), about(5));
            case "letter": return one(name, about(ports), about(9));
            case "river": return one(name, about(model.state.rivers.size()), about(6));
            case "voyage": return one(name, about(17), 0);
            case "why":
            case "room":
            case "place": return one(name, about(ports), about(4));
            case "upright":
            case "turningFrom":
            case "turnPage": return one(name, about(4), 0);
            case "ways":
            case "crossed":
            case "arranged":
            case "lift":
            case "sail": return one(name, about(ports), 0);
            case "leastIf":
            case "placedIf":
            case "setRed": return one(name, about(ports), random.nextInt(2));
            case "wayLength":
            case "washes":
            case "drowns":
            case "addRiver":
            case "erode":
            case "raise": return one(name, about(cells), 0);
            case "wayCell": return one(name, about(cells), about(6));
            case "dropRiver": return one(name, about(model.state.rivers.size()), 0);
            case "cut": return one(name, about(model.state.voyage.size()), 0);
            case "writeRow": return one(name, about(model.state.rows), 0);
            case "outputByte": return one(name, about(13), 0);
            case "saveSnapshot":
            case "restoreSnapshot": return one(name, about(2), 0);
            default: return one(name, 0, 0);
        }
    }

    /** Every answer about the chart as it stands. */
    private boolean all() {
        boolean alike = true;
        int cells = model.state.rows * model.state.columns;
        int ports = model.state.ports.size();
        for (int what = 0; what < 12; what++) {
            alike &= one("size", what, 0);
        }
        for (int cell = 0; cell < cells; cell++) {
            for (int what = 0; what < 6; what++) {
                alike &= one("cell", cell, what);
            }
            alike &= one("wayLength", cell, 0) && one("washes", cell, 0) && one("drowns", cell, 0);
        }
        for (int port = 0; port < ports; port++) {
            for (int d = 0; d < 4; d++) {
                alike &= one("why", port, d) && one("room", port, d) && one("harbour", port, d);
            }
            for (int red = 0; red < 2; red++) {
                alike &= one("leastIf", port, red) && one("placedIf", port, red);
            }
            alike &= one("ways", port, 0) && one("crossed", port, 0) && one("arranged", port, 0)
                && one("harbour", port, 4);
        }
        for (int turn = 0; turn < 4; turn++) {
            alike &= one("upright", turn, 0) && one("turningFrom", turn, 0);
        }
        for (String name : new String[] {"crossings", "free", "turning", "bestTurn", "hardest", "least", "placedThen",
            "shy", "mildest", "meanTurn", "cover"}) {
            alike &= one(name, 0, 0);
        }
        for (int river = 0; river < model.state.rivers.size(); river++) {
            for (int i = 0; i <= model.state.rivers.get(river).size(); i++) {
                alike &= one("river", river, i);
            }
        }
        for (int i = 0; i <= model.state.voyage.size(); i++) {
            alike &= one("voyage", i, 0);
        }
        return alike;
    }

    private boolean one(String name, long a, long b) {
        String due = model.answer(name, a, b);
        String got = Check.answer(() -> call(name, a, (int) b));
        told.append("\n  ").append(name).append('(').append(a).append(", ").append(b).append(") ").append(due);
        boolean alike = due.equals(got);
        Check.same(alike ? name : name + told.substring(Math.max(0, told.length() - 1500)), due, got);
        return alike;
    }

    private Object call(String name, long a, int y) {
        int x = (int) a;
        switch (name) {
            case "append": return chart.append(a);
            case "load": return chart.load();
            case "loadError": return chart.loadError();
            case "loadStatement": return chart.loadStatement();
            case "size": return chart.size(x);
            case "cell": return chart.cell(x, y);
            case "harbour": return chart.harbour(x, y);
            case "letter": return chart.letter(x, y);
            case "river": return chart.river(x, y);
            case "voyage": return chart.voyage(x);
            case "why": return chart.why(x, y);
            case "ways": return chart.ways(x);
            case "room": return chart.room(x, y);
            case "crossings": return chart.crossings();
            case "crossed": return chart.crossed(x);
            case "free": return chart.free();
            case "upright": return chart.upright(x);
            case "turning": return chart.turning();
            case "turningFrom": return chart.turningFrom(x);
            case "bestTurn": return chart.bestTurn();
            case "hardest": return chart.hardest();
            case "least": return chart.least();
            case "placedThen": return chart.placedThen();
            case "arranged": return chart.arranged(x);
            case "leastIf": return chart.leastIf(x, y != 0);
            case "placedIf": return chart.placedIf(x, y != 0);
            case "shy": return chart.shy();
            case "wayLength": return chart.wayLength(x);
            case "wayCell": return chart.wayCell(x, y);
            case "washes": return chart.washes(x);
            case "mildest": return chart.mildest();
            case "drowns": return chart.drowns(x);
            case "place": return chart.place(x, y);
            case "lift": return chart.lift(x);
            case "arrange": return chart.arrange();
            case "setRed": return chart.setRed(x, y != 0);
            case "addRiver": return chart.addRiver(x);
            case "dropRiver": return chart.dropRiver(x);
            case "erode": return chart.erode(x);
            case "raise": return chart.raise(x);
            case "sail": return chart.sail(x);
            case "cut": return chart.cut(x);
            case "turnPage": return chart.turnPage(x);
            case "read": return chart.read();
            case "meanTurn": return chart.meanTurn();
            case "cover": return chart.cover();
            case "writeRow": return chart.writeRow(x);
            case "outputByte": return chart.outputByte(x);
            case "undo": return chart.undo();
            case "saveSnapshot": return chart.saveSnapshot(x);
            case "restoreSnapshot": return chart.restoreSnapshot(x);
            default: throw new UnsupportedOperationException(name);
        }
    }
}
