import java.util.ArrayList;
import java.util.List;
import java.util.Random;

/** Makes descriptions: most of them right, some spoilt. */
final class RandomText {
    private final Random random;
    private int rows;
    private int columns;
    private final List<String> names = new ArrayList<>();

    RandomText(Random random) {
        this.random = random;
    }

    private int upTo(int most) {
        return random.nextInt(most + 1);
    }

    private boolean oneIn(int n) {
        return random.nextInt(n) == 0;
    }

    String next() {
        names.clear();
        rows = oneIn(4) ? 3 + upTo(9) : 3 + upTo(3);
        columns = oneIn(4) ? 3 + upTo(9) : 3 + upTo(3);
        StringBuilder text = new StringBuilder("chart " + rows + " " + columns);
        land(text);
        Model.State state = new ModelText(text.toString()).told();
        int statements = oneIn(3) ? 25 : 2 + upTo(12);
        boolean sailed = false;
        for (int i = 0; i < 100 && statements > 0 && state != null && text.length() < 460; i++) {
            String one = statement(state, sailed);
            Model.State then = new ModelText(text + ";" + one).told();
            if (then != null || oneIn(400)) {
                text.append(';').append(one);
                statements--;
                sailed |= one.startsWith("voyage");
                state = then;
            }
        }
        return oneIn(3) ? loose(spoilt(text.toString())) : loose(text.toString());
    }

    private void land(StringBuilder text) {
        for (int row = 0; row < rows; row++) {
            int from = oneIn(3) ? upTo(columns - 1) : 0;
            int to = oneIn(3) ? from + upTo(columns - 1 - from) : columns - 1;
            if (!oneIn(8)) {
                text.append(";land ").append(row).append(' ').append(from).append(' ').append(to);
            }
        }
    }

    private String name() {
        int letters = oneIn(12) ? 1 + upTo(8) : 1 + upTo(3);
        StringBuilder name = new StringBuilder();
        for (int i = 0; i < letters; i++) {
            name.append((char) ('a' + (oneIn(5) ? upTo(25) : upTo(1))));
        }
        return name.toString();
    }

    private String known() {
        return names.isEmpty() || oneIn(40) ? name() : names.get(random.nextInt(names.size()));
    }

    private String statement(Model.State state, boolean sailed) {
        names.clear();
        for (Model.Port port : state.ports) {
            names.add(port.name);
        }
        int row = upTo(rows - 1);
        int column = upTo(columns - 1);
        switch (upTo(9)) {
            case 0:
            case 1:
            case 2:
            case 3:
            case 4: return "harbour " + name() + " " + row + " " + column + (oneIn(4) ? " red" : "");
            case 5: return "river " + row + " " + column;
            case 6:
            case 7: return "place " + known() + " " + Model.WORDS[upTo(3)];
            case 8: {
                StringBuilder text = new StringBuilder("voyage");
                int stops = 1 + (oneIn(12) ? 15 + upTo(2) : upTo(6));
                for (int i = 0; i < stops; i++) {
                    text.append(' ').append(known());
                }
                return sailed && !oneIn(20) ? "turn " + upTo(3) : text.toString();
            }
            default: return "turn " + upTo(oneIn(10) ? 5 : 3);
        }
    }

    private String spoilt(String text) {
        int at = upTo(text.length() - 1);
        String signs = "a0 ;A9\u00e9rlz~{`/:";
        char sign = signs.charAt(random.nextInt(signs.length()));
        switch (upTo(3)) {
            case 0: return text.substring(0, at);
            case 1: return text.substring(0, at) + sign + text.substring(at);
            case 2: return text.substring(0, at) + text.substring(at + 1);
            default: return text.substring(0, at) + sign + text.substring(at + 1);
        }
    }

    /** Spaces more or fewer, where they are free. */
    private String loose(String text) {
        StringBuilder loose = new StringBuilder();
        for (int i = 0; i < text.length(); i++) {
            char sign = text.charAt(i);
            char before = i > 0 ? text.charAt(i - 1) : ';';
            char after = i + 1 < text.length() ? text.charAt(i + 1) : ';';
            boolean needed = Character.isDigit(before) == Character.isDigit(after);
            if (sign == ' ' && !needed && oneIn(6)) {
                continue;
            }
            if (sign == ';' && oneIn(8)) {
                loose.append(' ');
            }
            loose.append(sign);
            if ((sign == ';' || sign == ' ') && oneIn(10)) {
                loose.append(' ');
            }
        }
        return loose.length() <= 500 ? loose.toString() : text;
    }
}
