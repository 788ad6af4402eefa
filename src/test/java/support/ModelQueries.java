import java.util.List;

/** The answers that change nothing. */
final class ModelQueries {
    private ModelQueries() {
    }

    /** Null if the method is no such one. */
    static String answer(Model model, String method, int x, int y) {
        Model.State s = model.state;
        switch (method) {
            case "size": return "" + size(model, x);
            case "cell": return "" + cell(s, x, y);
            case "harbour": return "" + harbour(s, x, y);
            case "letter": return "" + letter(s.ports.get(x).name, y);
            case "river": return "" + item(s.rivers.get(x), y);
            case "voyage": return "" + item(s.voyage, x);
            case "why": return "" + s.why(x, y);
            case "ways": return "" + ways(s, x);
            case "room": return "" + room(s, x, y);
            case "crossings": return "" + crossings(s);
            case "crossed": return "" + s.crossed(x);
            case "free": return "" + free(s);
            case "upright": return "" + upright(s, x);
            case "turning": return "" + s.turning(s.turn, s.directions());
            case "turningFrom": return "" + s.turning(x, s.directions());
            case "bestTurn": return "" + bestTurn(s);
            case "hardest": return "" + hardest(s);
            case "least": return "" + s.best().turning;
            case "placedThen": return "" + s.best().count;
            case "arranged": return "" + s.best().directions[x];
            case "leastIf": return "" + ifRed(s, x, y != 0).best().turning;
            case "placedIf": return "" + ifRed(s, x, y != 0).best().count;
            case "shy": return "" + shy(s);
            case "wayLength": return "" + (s.way(x) == null ? -3 : s.way(x).size());
            case "wayCell": return "" + (s.way(x) == null ? -1 : item(s.way(x), y));
            case "washes": return "" + (s.way(x) == null ? 0 : s.namesOn(s.way(x)));
            case "mildest": return "" + mildest(s);
            case "drowns": return "" + s.namesAt(x);
            default: return null;
        }
    }

    private static int item(List<Integer> list, int index) {
        return index >= 0 && index < list.size() ? list.get(index) : -1;
    }

    private static int letter(String name, int index) {
        return index >= 0 && index < name.length() ? name.charAt(index) : -1;
    }

    private static int size(Model model, int what) {
        Model.State s = model.state;
        int land = 0;
        for (boolean[] row : s.land) {
            for (boolean dry : row) {
                land += dry ? 1 : 0;
            }
        }
        int placed = (int) s.ports.stream().filter(port -> port.direction >= 0).count();
        int reds = (int) s.ports.stream().filter(port -> port.direction >= 0 && port.red).count();
        int[] all = {s.rows, s.columns, land, s.ports.size(), s.rivers.size(), placed, reds, s.voyage.size(), s.turn,
            s.place, s.quarters, model.past.size()};
        return all[what];
    }

    private static int cell(Model.State s, int cell, int what) {
        int row = cell / s.columns;
        int column = cell % s.columns;
        switch (what) {
            case 0: return s.riverAt(row, column) >= 0 ? 2 : s.land[row][column] ? 1 : 0;
            case 1: return s.portAt(row, column);
            case 2: return s.riverAt(row, column);
            case 3: return s.letterAt(cell);
            case 4: return s.namesAt(cell);
            default: return s.depth(row, column);
        }
    }

    private static int harbour(Model.State s, int harbour, int what) {
        Model.Port port = s.ports.get(harbour);
        int times = (int) s.voyage.stream().filter(stop -> stop == harbour).count();
        int[] all = {port.row * s.columns + port.column, port.red ? 1 : 0, port.direction, port.name.length(), times};
        return all[what];
    }

    private static int ways(Model.State s, int harbour) {
        int sum = 0;
        for (int d = 0; d < 4; d++) {
            sum += s.why(harbour, d) == 0 ? 1 << d : 0;
        }
        return sum;
    }

    private static int room(Model.State s, int harbour, int direction) {
        Model.Port port = s.ports.get(harbour);
        int cells = 0;
        int row = port.row + Model.DOWN[direction];
        int column = port.column + Model.RIGHT[direction];
        while (s.open(row, column)) {
            cells++;
            row += Model.DOWN[direction];
            column += Model.RIGHT[direction];
        }
        return cells;
    }

    private static int crossings(Model.State s) {
        int pairs = 0;
        for (int one = 0; one < s.ports.size(); one++) {
            for (int two = one + 1; two < s.ports.size(); two++) {
                pairs += s.crossed(one) >> two & 1;
            }
        }
        return pairs;
    }

    private static int free(Model.State s) {
        int free = 0;
        for (int cell = 0; cell < s.rows * s.columns; cell++) {
            free += s.open(cell / s.columns, cell % s.columns) && s.namesAt(cell) == 0 ? 1 : 0;
        }
        return free;
    }

    private static int upright(Model.State s, int turn) {
        int names = 0;
        for (int port = 0; port < s.ports.size(); port++) {
            int direction = s.ports.get(port).direction;
            names |= direction >= 0 && Model.uprightTurn(direction) == turn ? 1 << port : 0;
        }
        return names;
    }

    private static int bestTurn(Model.State s) {
        int best = 3;
        for (int turn = 3; turn >= 0; turn--) {
            best = s.turning(turn, s.directions()) <= s.turning(best, s.directions()) ? turn : best;
        }
        return best;
    }

    private static int hardest(Model.State s) {
        int hardest = -1;
        int most = 0;
        int before = 0;
        for (int end = 1; end <= s.voyage.size(); end++) {
            Model.State part = s.copy();
            part.voyage = part.voyage.subList(0, end);
            int sum = part.turning(s.turn, s.directions());
            if (sum - before > most) {
                most = sum - before;
                hardest = end - 1;
            }
            before = sum;
        }
        return hardest;
    }

    private static Model.State ifRed(Model.State s, int harbour, boolean red) {
        Model.State copy = s.copy();
        copy.ports.get(harbour).red = red;
        return copy;
    }

    private static int shy(Model.State s) {
        int names = 0;
        for (int port = 0; port < s.ports.size(); port++) {
            names |= s.without(port).best().count == s.ports.size() - 1 ? 1 << port : 0;
        }
        return names;
    }

    private static int mildest(Model.State s) {
        int mildest = -1;
        int key = Integer.MAX_VALUE;
        for (int cell = 0; cell < s.rows * s.columns; cell++) {
            List<Integer> way = s.way(cell);
            if (way != null && Integer.bitCount(s.namesOn(way)) * 1000 - way.size() < key) {
                key = Integer.bitCount(s.namesOn(way)) * 1000 - way.size();
                mildest = cell;
            }
        }
        return mildest;
    }
}
