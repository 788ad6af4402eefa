import java.util.ArrayList;
import java.util.Arrays;
import java.util.List;
import java.util.PriorityQueue;
import java.util.TreeMap;

/**
 * The document told a second time, slowly and by other means than the program: the whole chart is looked at anew for
 * each answer, arrangements are all tried, and ways are compared by their texts of directions.
 */
final class Model {
    static final int[] DOWN = {-1, 0, 1, 0};
    static final int[] RIGHT = {0, 1, 0, -1};
    static final String[] WORDS = {"up", "right", "down", "left"};

    static final class Port {
        final String name;
        final int row;
        final int column;
        boolean red;
        int direction = -1;

        Port(String name, int row, int column) {
            this.name = name;
            this.row = row;
            this.column = column;
        }

        Port copy() {
            Port copy = new Port(name, row, column);
            copy.red = red;
            copy.direction = direction;
            return copy;
        }
    }

    static final class State {
        int rows = 3;
        int columns = 3;
        boolean[][] land = new boolean[3][3];
        List<Port> ports = new ArrayList<>();
        List<List<Integer>> rivers = new ArrayList<>();
        List<Integer> voyage = new ArrayList<>();
        int turn;
        int place;
        int quarters;

        State copy() {
            State copy = new State();
            copy.rows = rows;
            copy.columns = columns;
            copy.land = new boolean[rows][];
            for (int row = 0; row < rows; row++) {
                copy.land[row] = land[row].clone();
            }
            for (Port port : ports) {
                copy.ports.add(port.copy());
            }
            copy.rivers = new ArrayList<>(rivers);
            copy.voyage = new ArrayList<>(voyage);
            copy.turn = turn;
            copy.place = place;
            copy.quarters = quarters;
            return copy;
        }

        boolean inside(int row, int column) {
            return row >= 0 && row < rows && column >= 0 && column < columns;
        }

        boolean dry(int row, int column) {
            return inside(row, column) && land[row][column];
        }

        boolean coast(int row, int column) {
            return !dry(row - 1, column) || !dry(row + 1, column) || !dry(row, column - 1) || !dry(row, column + 1);
        }

        int riverAt(int row, int column) {
            for (int river = 0; river < rivers.size(); river++) {
                if (inside(row, column) && rivers.get(river).contains(row * columns + column)) {
                    return river;
                }
            }
            return -1;
        }

        int portAt(int row, int column) {
            for (int port = 0; port < ports.size(); port++) {
                if (ports.get(port).row == row && ports.get(port).column == column) {
                    return port;
                }
            }
            return -1;
        }

        boolean open(int row, int column) {
            return dry(row, column) && riverAt(row, column) < 0 && portAt(row, column) < 0;
        }

        /** The letters of a name that lies so, by cells. */
        TreeMap<Integer, Character> letters(Port port, int direction) {
            TreeMap<Integer, Character> letters = new TreeMap<>();
            for (int i = 0; direction >= 0 && i < port.name.length(); i++) {
                int row = port.row + (i + 1) * DOWN[direction];
                int column = port.column + (i + 1) * RIGHT[direction];
                if (inside(row, column)) {
                    letters.put(row * columns + column, port.name.charAt(i));
                }
            }
            return letters;
        }

        int namesAt(int cell) {
            int names = 0;
            for (int port = 0; port < ports.size(); port++) {
                if (letters(ports.get(port), ports.get(port).direction).containsKey(cell)) {
                    names |= 1 << port;
                }
            }
            return names;
        }

        int letterAt(int cell) {
            for (Port port : ports) {
                Character letter = letters(port, port.direction).get(cell);
                if (letter != null) {
                    return letter;
                }
            }
            return -1;
        }

        boolean foes(Port one, int oneWay, Port two, int twoWay) {
            TreeMap<Integer, Character> a = letters(one, oneWay);
            TreeMap<Integer, Character> b = letters(two, twoWay);
            for (int cell : a.keySet()) {
                if (b.containsKey(cell) && (one.red || two.red || !a.get(cell).equals(b.get(cell)))) {
                    return true;
                }
            }
            return false;
        }

        int groundReason(Port port, int direction) {
            if (dry(port.row - DOWN[direction], port.column - RIGHT[direction])) {
                return 1;
            }
            boolean[] is = new boolean[6];
            for (int i = 1; i <= port.name.length(); i++) {
                int row = port.row + i * DOWN[direction];
                int column = port.column + i * RIGHT[direction];
                is[2] |= !inside(row, column);
                is[3] |= inside(row, column) && !land[row][column];
                is[4] |= riverAt(row, column) >= 0;
                is[5] |= portAt(row, column) >= 0;
            }
            for (int reason = 2; reason < 6; reason++) {
                if (is[reason]) {
                    return reason;
                }
            }
            return 0;
        }

        int why(int harbour, int direction) {
            Port port = ports.get(harbour);
            int reason = groundReason(port, direction);
            for (Port other : ports) {
                if (reason == 0 && other != port && foes(port, direction, other, other.direction)) {
                    return 6;
                }
            }
            return reason;
        }

        int depth(int row, int column) {
            for (int steps = 0;; steps++) {
                for (int down = -steps; down <= steps; down++) {
                    int right = steps - Math.abs(down);
                    if (!dry(row + down, column + right) || !dry(row + down, column - right)) {
                        return steps;
                    }
                }
            }
        }

        boolean end(int row, int column) {
            for (int d = 0; d < 4; d++) {
                if (!dry(row + DOWN[d], column + RIGHT[d]) || riverAt(row + DOWN[d], column + RIGHT[d]) >= 0) {
                    return true;
                }
            }
            return false;
        }

        record Walk(int sum, String steps, List<Integer> cells) implements Comparable<Walk> {
            @Override
            public int compareTo(Walk other) {
                return sum != other.sum ? Integer.compare(sum, other.sum) : steps.compareTo(other.steps);
            }
        }

        int cost(int cell) {
            return namesAt(cell) != 0 ? 11 : 1;
        }

        /** The way of a river from a cell; null if there is none. */
        List<Integer> way(int source) {
            if (!open(source / columns, source % columns)) {
                return null;
            }
            PriorityQueue<Walk> walks = new PriorityQueue<>();
            walks.add(new Walk(cost(source), "", List.of(source)));
            boolean[] done = new boolean[rows * columns];
            while (!walks.isEmpty()) {
                Walk walk = walks.remove();
                int last = walk.cells.get(walk.cells.size() - 1);
                if (end(last / columns, last % columns)) {
                    return walk.cells;
                }
                if (done[last]) {
                    continue;
                }
                done[last] = true;
                for (int d = 0; d < 4; d++) {
                    int row = last / columns + DOWN[d];
                    int column = last % columns + RIGHT[d];
                    if (open(row, column)) {
                        List<Integer> cells = new ArrayList<>(walk.cells);
                        cells.add(row * columns + column);
                        walks.add(new Walk(walk.sum + cost(row * columns + column), walk.steps + d, cells));
                    }
                }
            }
            return null;
        }

        int namesOn(List<Integer> cells) {
            int names = 0;
            for (int cell : cells) {
                names |= namesAt(cell);
            }
            return names;
        }

        int lift(int names) {
            int lifted = 0;
            for (int port = 0; port < ports.size(); port++) {
                if ((names >> port & 1) == 1 && ports.get(port).direction >= 0) {
                    ports.get(port).direction = -1;
                    lifted++;
                }
            }
            return lifted;
        }

        int turning(int from, int[] directions) {
            int sum = 0;
            int now = from;
            for (int port : voyage) {
                if (directions[port] >= 0) {
                    int then = uprightTurn(directions[port]);
                    sum += quarters(now, then);
                    now = then;
                }
            }
            return sum;
        }

        int[] directions() {
            int[] directions = new int[ports.size()];
            for (int port = 0; port < directions.length; port++) {
                directions[port] = ports.get(port).direction;
            }
            return directions;
        }

        int crossed(int harbour) {
            int names = 0;
            Port port = ports.get(harbour);
            for (int cell : letters(port, port.direction).keySet()) {
                names |= namesAt(cell);
            }
            return names & ~(1 << harbour);
        }

        /** The best arrangement: what it places (red, all), its turning, and its directions (-1 for not placed). */
        Best best() {
            int count = ports.size();
            int[][] choices = new int[count][];
            for (int port = 0; port < count; port++) {
                int[] all = new int[5];
                int n = 0;
                for (int d = 0; d < 4; d++) {
                    if (groundReason(ports.get(port), d) == 0) {
                        all[n++] = d;
                    }
                }
                all[n++] = -1;
                choices[port] = Arrays.copyOf(all, n);
            }
            Best best = null;
            int[] wheel = new int[count];
            int[] directions = new int[count];
            while (true) {
                for (int port = 0; port < count; port++) {
                    directions[port] = choices[port][wheel[port]];
                }
                if (together(directions)) {
                    Best one = new Best(this, directions.clone());
                    best = best == null || one.betterThan(best) ? one : best;
                }
                int port = 0;
                while (port < count && ++wheel[port] == choices[port].length) {
                    wheel[port++] = 0;
                }
                if (port == count) {
                    return best;
                }
            }
        }

        boolean together(int[] directions) {
            for (int one = 0; one < directions.length; one++) {
                for (int two = 0; two < one; two++) {
                    if (foes(ports.get(one), directions[one], ports.get(two), directions[two])) {
                        return false;
                    }
                }
            }
            return true;
        }

        /** The chart as if a harbour was not there. */
        State without(int harbour) {
            State copy = copy();
            copy.ports.remove(harbour);
            copy.voyage.clear();
            return copy;
        }
    }

    static final class Best {
        final int[] directions;
        final int turning;
        int reds;
        int count;

        Best(State state, int[] directions) {
            this.directions = directions;
            turning = state.turning(state.turn, directions);
            for (int port = 0; port < directions.length; port++) {
                if (directions[port] >= 0) {
                    count++;
                    reds += state.ports.get(port).red ? 1 : 0;
                }
            }
        }

        boolean betterThan(Best other) {
            if (reds != other.reds) {
                return reds > other.reds;
            }
            if (count != other.count) {
                return count > other.count;
            }
            if (turning != other.turning) {
                return turning < other.turning;
            }
            for (int port = 0; port < directions.length; port++) {
                int mine = directions[port] < 0 ? 4 : directions[port];
                int its = other.directions[port] < 0 ? 4 : other.directions[port];
                if (mine != its) {
                    return mine < its;
                }
            }
            return false;
        }
    }

    static int uprightTurn(int direction) {
        return direction == 0 ? 3 : direction - 1;
    }

    static int quarters(int one, int two) {
        return one == two ? 0 : (one + two) % 2 == 1 ? 1 : 2;
    }

    State state = new State();
    final List<State> past = new ArrayList<>();
    final State[] snapshots = new State[2];
    StringBuilder input = new StringBuilder();
    String output = "";
    int error;
    int errorStatement = -1;

    /** Answers a call; exceptions are told as Check.answer() tells them. */
    String answer(String method, long a, long b) {
        int x = (int) a;
        int y = (int) b;
        String refusal = refusal(method, x, y);
        if (refusal != null) {
            return "throws." + refusal;
        }
        switch (method) {
            case "append": return "" + append(a);
            case "load": return "" + load();
            case "loadError": return "" + error;
            case "loadStatement": return "" + errorStatement;
            case "outputByte": return "" + (x >= 0 && x < output.length() ? output.charAt(x) : -1);
            case "undo":
                if (past.isEmpty()) {
                    return "-1";
                }
                state = past.remove(past.size() - 1);
                return "" + past.size();
            case "saveSnapshot":
                snapshots[x] = state.copy();
                return "" + state.ports.size();
            case "restoreSnapshot":
                if (snapshots[x] == null) {
                    return "-1";
                }
                state = snapshots[x].copy();
                past.clear();
                return "" + state.ports.size();
            case "writeRow":
                output = row(x);
                return "" + output.length();
            case "meanTurn": return "" + meanTurn();
            case "cover": return "" + cover();
            default:
        }
        String told = ModelQueries.answer(this, method, x, y);
        return told != null ? told : act(method, x, y);
    }

    private String refusal(String method, int x, int y) {
        String index = "IndexOutOfBoundsException";
        String argument = "IllegalArgumentException";
        boolean noPort = x < 0 || x >= state.ports.size();
        boolean noCell = x < 0 || x >= state.rows * state.columns;
        switch (method) {
            case "size": return x < 0 || x > 11 ? argument : null;
            case "cell": return noCell ? index : y < 0 || y > 5 ? argument : null;
            case "harbour": return noPort ? index : y < 0 || y > 4 ? argument : null;
            case "why":
            case "room":
            case "place": return noPort ? index : y < 0 || y > 3 ? argument : null;
            case "river":
            case "dropRiver": return x < 0 || x >= state.rivers.size() ? index : null;
            case "letter":
            case "ways":
            case "crossed":
            case "arranged":
            case "leastIf":
            case "placedIf":
            case "lift":
            case "setRed":
            case "sail": return noPort ? index : null;
            case "upright":
            case "turningFrom":
            case "turnPage": return x < 0 || x > 3 ? argument : null;
            case "wayLength":
            case "wayCell":
            case "washes":
            case "drowns":
            case "addRiver":
            case "erode":
            case "raise": return noCell ? index : null;
            case "cut": return x < 0 || x >= state.voyage.size() ? index : null;
            case "writeRow": return x < 0 || x >= state.rows ? index : null;
            case "saveSnapshot":
            case "restoreSnapshot": return x < 0 || x > 1 ? argument : null;
            default: return null;
        }
    }

    private int append(long bytes) {
        StringBuilder more = new StringBuilder();
        for (int i = 7; i >= 0; i--) {
            char sign = (char) (bytes >>> 8 * i & 255);
            if (sign != 0) {
                more.append(sign);
            }
        }
        if (input.length() + more.length() > 500) {
            return -2;
        }
        input.append(more);
        return input.length();
    }

    private int load() {
        ModelText text = new ModelText(input.toString());
        input = new StringBuilder();
        State told = text.told();
        error = text.error;
        errorStatement = told == null ? text.statement : -1;
        if (told == null) {
            return -100 - text.position;
        }
        state = told;
        past.clear();
        return state.ports.size();
    }

    private String row(int row) {
        StringBuilder text = new StringBuilder();
        for (int column = 0; column < state.columns; column++) {
            int cell = row * state.columns + column;
            char sign = '.';
            if (!state.land[row][column]) {
                sign = '~';
            } else if (state.portAt(row, column) >= 0) {
                sign = '@';
            } else if (state.letterAt(cell) >= 0) {
                sign = (char) state.letterAt(cell);
                for (int port = 0; port < state.ports.size(); port++) {
                    if ((state.namesAt(cell) >> port & 1) == 1 && state.ports.get(port).red) {
                        sign = Character.toUpperCase(sign);
                    }
                }
            } else if (state.riverAt(row, column) >= 0) {
                sign = '=';
            }
            text.append(sign);
        }
        return text.toString();
    }

    private double meanTurn() {
        long names = state.voyage.stream().filter(port -> state.ports.get(port).direction >= 0).count();
        return names == 0 ? 0.0 : (double) state.turning(state.turn, state.directions()) / (double) names;
    }

    private float cover() {
        int land = 0;
        int letters = 0;
        for (int cell = 0; cell < state.rows * state.columns; cell++) {
            land += state.land[cell / state.columns][cell % state.columns] ? 1 : 0;
            letters += state.namesAt(cell) != 0 ? 1 : 0;
        }
        return land == 0 ? 0.0f : (float) letters / (float) land;
    }

    /** An action is done on a copy, which becomes the chart if the action was not refused. */
    private String act(String method, int x, int y) {
        State next = state.copy();
        String told = ModelActions.act(next, method, x, y);
        if (!told.equals("-3!") && !told.equals("-2!")) {
            past.add(state);
            if (past.size() > 8) {
                past.remove(0);
            }
            state = next;
        }
        return told.replace("!", "");
    }
}
