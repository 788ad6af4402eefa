import java.util.ArrayList;
import java.util.List;
import java.util.regex.Matcher;
import java.util.regex.Pattern;

/** Reads a description: first into tokens, then by its statements; an error is thrown. */
final class ModelText {
    private static final class Fault extends Exception {
        private static final long serialVersionUID = 1L;
        final int kind;
        final int position;

        Fault(int kind, int position) {
            this.kind = kind;
            this.position = position;
        }
    }

    private record Token(String text, int position) {
        boolean isWord() {
            return text.matches("[a-z]+");
        }

        boolean isNumber() {
            return text.matches("[0-9]+");
        }
    }

    private final List<Token> tokens = new ArrayList<>();
    private int next;
    int error;
    int position;
    int statement;

    ModelText(String text) {
        Matcher matcher = Pattern.compile("[a-z]+|[0-9]+|[^ ]", Pattern.DOTALL).matcher(text);
        while (matcher.find()) {
            tokens.add(new Token(matcher.group(), matcher.start()));
        }
        tokens.add(new Token("", text.length()));
    }

    /** The state that the text tells of; null on an error. */
    Model.State told() {
        Model.State state = new Model.State();
        try {
            word("chart");
            state.rows = number(3, 12);
            state.columns = number(3, 12);
            state.land = new boolean[state.rows][state.columns];
            boolean sailed = false;
            while (!peek().text.isEmpty()) {
                if (!peek().text.equals(";")) {
                    throw new Fault(1, peek().position);
                }
                next++;
                statement++;
                sailed |= statement(state, sailed);
            }
            return state;
        } catch (Fault fault) {
            error = fault.kind;
            position = fault.position;
            return null;
        }
    }

    private Token peek() {
        return tokens.get(next);
    }

    private Token word() throws Fault {
        Token token = peek();
        if (!token.isWord()) {
            throw new Fault(1, token.position);
        }
        next++;
        return token;
    }

    private void word(String due) throws Fault {
        Token token = word();
        if (!token.text.equals(due)) {
            throw new Fault(1, token.position);
        }
    }

    private Token name() throws Fault {
        Token token = word();
        if (token.text.length() > 8) {
            throw new Fault(1, token.position);
        }
        return token;
    }

    private int number(int low, int high) throws Fault {
        Token token = peek();
        if (!token.isNumber()) {
            throw new Fault(1, token.position);
        }
        java.math.BigInteger value = new java.math.BigInteger(token.text);
        if (value.bitLength() > 20 || value.intValue() < low || value.intValue() > high) {
            throw new Fault(2, token.position);
        }
        next++;
        return value.intValue();
    }

    private int port(Model.State state, Token name) throws Fault {
        for (int port = 0; port < state.ports.size(); port++) {
            if (state.ports.get(port).name.equals(name.text)) {
                return port;
            }
        }
        throw new Fault(4, name.position);
    }

    /** Tells whether it was a voyage. */
    private boolean statement(Model.State state, boolean sailed) throws Fault {
        Token keyword = word();
        Fault misplaced = new Fault(3, keyword.position);
        switch (keyword.text) {
            case "land": {
                if (!state.ports.isEmpty() || !state.rivers.isEmpty()) {
                    throw misplaced;
                }
                int row = number(0, state.rows - 1);
                int from = number(0, state.columns - 1);
                int to = number(from, state.columns - 1);
                java.util.Arrays.fill(state.land[row], from, to + 1, true);
                return false;
            }
            case "harbour":
                if (state.ports.size() == 8) {
                    throw misplaced;
                }
                harbour(state);
                return false;
            case "river": {
                if (state.rivers.size() == 8) {
                    throw misplaced;
                }
                int row = number(0, state.rows - 1);
                int at = peek().position;
                List<Integer> way = state.way(row * state.columns + number(0, state.columns - 1));
                if (way == null) {
                    throw new Fault(3, at);
                }
                state.lift(state.namesOn(way));
                state.rivers.add(way);
                return false;
            }
            case "place": {
                int port = port(state, name());
                Token word = word();
                int direction = java.util.Arrays.asList(Model.WORDS).indexOf(word.text);
                if (direction < 0) {
                    throw new Fault(1, word.position);
                }
                if (state.why(port, direction) != 0) {
                    throw new Fault(3, word.position);
                }
                state.ports.get(port).direction = direction;
                return false;
            }
            case "voyage":
                if (sailed) {
                    throw misplaced;
                }
                do {
                    Token name = name();
                    if (state.voyage.size() == 16) {
                        throw new Fault(3, name.position);
                    }
                    state.voyage.add(port(state, name));
                } while (peek().isWord());
                return true;
            case "turn":
                state.turn = number(0, 3);
                return false;
            default: throw new Fault(1, keyword.position);
        }
    }

    private void harbour(Model.State state) throws Fault {
        Token name = name();
        for (Model.Port port : state.ports) {
            if (port.name.equals(name.text)) {
                throw new Fault(3, name.position);
            }
        }
        int row = number(0, state.rows - 1);
        int at = peek().position;
        int column = number(0, state.columns - 1);
        int cell = row * state.columns + column;
        if (!state.open(row, column) || !state.coast(row, column) || state.namesAt(cell) != 0) {
            throw new Fault(3, at);
        }
        Model.Port port = new Model.Port(name.text, row, column);
        state.ports.add(port);
        if (peek().isWord()) {
            word("red");
            port.red = true;
        }
    }
}
