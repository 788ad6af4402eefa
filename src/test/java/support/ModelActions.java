import java.util.List;

/** The actions, on a state that is thrown away if the answer ends with a bang (the action was refused). */
final class ModelActions {
    private ModelActions() {
    }

    static String act(Model.State s, String method, int x, int y) {
        switch (method) {
            case "place": {
                int before = s.ports.get(x).direction;
                if (s.why(x, y) != 0) {
                    return "-3!";
                }
                s.ports.get(x).direction = y;
                return "" + before;
            }
            case "lift": {
                int before = s.ports.get(x).direction;
                s.ports.get(x).direction = -1;
                return before < 0 ? "-3!" : "" + before;
            }
            case "arrange": {
                Model.Best best = s.best();
                for (int port = 0; port < s.ports.size(); port++) {
                    s.ports.get(port).direction = best.directions[port];
                }
                return "" + best.count;
            }
            case "setRed": {
                boolean before = s.ports.get(x).red;
                if (y != 0 && !before) {
                    s.lift(s.crossed(x));
                }
                s.ports.get(x).red = y != 0;
                return "" + before;
            }
            case "addRiver": {
                List<Integer> way = s.way(x);
                if (s.rivers.size() == 8) {
                    return "-2!";
                }
                if (way == null) {
                    return "-3!";
                }
                s.lift(s.namesOn(way));
                s.rivers.add(way);
                return "" + (s.rivers.size() - 1);
            }
            case "dropRiver": return "" + s.rivers.remove(x).size();
            case "erode": {
                if (!s.open(x / s.columns, x % s.columns)) {
                    return "-3!";
                }
                int lifted = s.lift(s.namesAt(x));
                s.land[x / s.columns][x % s.columns] = false;
                return "" + lifted;
            }
            case "raise": return raise(s, x / s.columns, x % s.columns);
            case "sail":
                s.voyage.add(x);
                return s.voyage.size() > 16 ? "-2!" : "" + s.voyage.size();
            case "cut": {
                int harbour = s.voyage.remove(x);
                s.place -= x < s.place ? 1 : 0;
                s.place = s.place >= s.voyage.size() ? 0 : s.place;
                return "" + harbour;
            }
            case "turnPage": return "" + turn(s, x);
            case "read": {
                if (s.voyage.isEmpty()) {
                    return "-3!";
                }
                int harbour = s.voyage.get(s.place);
                int direction = s.ports.get(harbour).direction;
                if (direction >= 0) {
                    turn(s, Model.uprightTurn(direction));
                }
                s.place = (s.place + 1) % s.voyage.size();
                return "" + harbour;
            }
            default: throw new UnsupportedOperationException(method);
        }
    }

    private static String raise(Model.State s, int row, int column) {
        if (s.land[row][column]) {
            return "-3!";
        }
        s.land[row][column] = true;
        int names = 0;
        for (int port = 0; port < s.ports.size(); port++) {
            Model.Port it = s.ports.get(port);
            if (!s.coast(it.row, it.column)) {
                return "-3!";
            }
            if (it.direction >= 0 && s.groundReason(it, it.direction) == 1) {
                names |= 1 << port;
            }
        }
        return "" + s.lift(names);
    }

    private static int turn(Model.State s, int turn) {
        int quarters = Model.quarters(s.turn, turn);
        s.turn = turn;
        s.quarters += quarters;
        return quarters;
    }
}
