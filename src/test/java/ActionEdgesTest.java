/** Section 5, promises 34 to 37, 40 to 45 and 50 to 52: each sentence that names a boundary. */
public final class ActionEdgesTest {
    private static final String ALL = Charts.allLand(5, 5) + ";";
    private static final String CROSS = ALL + "harbour ax 4 2;harbour bx 2 0;harbour cx 0 2;harbour dx 2 4;";
    private static final String PLACED = CROSS + "place ax up;place bx right;place cx down;place dx left;";
    private static final int[] NO_HARBOUR = {Integer.MIN_VALUE, -1, 4, 8, 31, 32, Integer.MAX_VALUE};
    private static final int[] NO_CELL = {Integer.MIN_VALUE, -1, 25, 143, 144, Integer.MAX_VALUE};
    private static final int[] NOT_0_TO_3 = {Integer.MIN_VALUE, -1, 4, Integer.MAX_VALUE};

    private interface Call {
        Object on(PortolanChart chart);
    }

    public static void main(String[] args) {
        place();
        lift();
        setRed();
        erodeLetters();
        erodeWrong();
        raiseBehindAName();
        raiseWrong();
        sailUpTo16();
        cutAndThePlace();
        turnPage();
        read();
        readPlaces();
        anActionThatChangesNothing();
        predictionsChangeNothing();
        refusalsChangeNothing();
        exceptionsComeBeforeErrors();
        theLatestEight();
        undoStaysOut();
        snapshotSlots();
        whatASnapshotHolds();
        whatEndsTheActions();
        calls512();
        Check.end();
    }

    private static String directions(PortolanChart chart) {
        StringBuilder text = new StringBuilder();
        for (int harbour = 0; harbour < chart.size(3); harbour++) {
            text.append(harbour == 0 ? "" : " ").append(chart.harbour(harbour, 2));
        }
        return text.toString();
    }

    private static void place() {
        PortolanChart chart = Charts.of(ALL + "harbour ab 4 4;harbour abcde 0 0");
        Check.same("34 NONE if it was not placed", -1, chart.place(0, 0));
        Check.same("34 the previous DIRECTION, 0", 0, chart.place(0, 3));
        Check.same("34 the previous DIRECTION, 3", 3, chart.place(0, 3));
        Check.same("34 wherever it was", "@..../...../...../...../..ba@", Charts.picture(chart));
        Check.same("34 WRONG for 1", -3, chart.place(0, 1));
        Check.same("34 WRONG for 2", -3, chart.place(1, 2));
        Check.same("34 WRONG leaves it where it was", "3 -1", directions(chart));
        Check.same("34 WRONG for 4", -3, Charts.of(ALL + "harbour a 0 0;river 0 1").place(0, 1));
        Check.same("34 WRONG for 5", -3, Charts.of(ALL + "harbour a 0 0;harbour b 0 1").place(0, 1));
        Check.same("34 WRONG for 3", -3, Charts.of("chart 3 3;land 1 1 1;harbour a 1 1").place(0, 0));
        PortolanChart six = Charts.of(PLACED + "turn 0");
        six.lift(0);
        six.setRed(0, true);
        Check.same("34 WRONG for 6", -3, six.place(0, 0));
    }

    private static void lift() {
        for (int direction = 0; direction < 4; direction++) {
            PortolanChart chart = Charts.of(PLACED + "turn 0");
            Check.same("35 the previous DIRECTION", direction, chart.lift(direction));
            Check.same("35 NONE then", -1, chart.harbour(direction, 2));
            Check.same("35 the others stay", 3, chart.size(5));
            Check.same("35 WRONG if it is not placed", -3, chart.lift(direction));
        }
        PortolanChart longer = Charts.of(ALL + "harbour a 4 4;harbour xyz 4 0;place a left;place xyz up");
        Check.same("35 the last of a longer name", 'z', longer.cell(5, 3));
        longer.lift(1);
        Check.same("35 all its letters", "...../...../...../...../@..a@", Charts.picture(longer));
    }

    private static void setRed() {
        for (int harbour = 0; harbour < 4; harbour++) {
            PortolanChart chart = Charts.of(PLACED + "turn 0");
            Check.same("37 it was not", false, chart.setRed(harbour, true));
            StringBuilder due = new StringBuilder();
            for (int other = 0; other < 4; other++) {
                due.append(other == 0 ? "" : " ").append(other == harbour ? harbour : -1);
            }
            Check.same("37 its own stays, all that it crosses are lifted", due.toString(), directions(chart));
            Check.same("37 it was", true, chart.setRed(harbour, false));
            Check.same("37 they do not come back", 1, chart.size(5));
            Check.same("37 it was not any more", false, chart.setRed(harbour, false));
        }
        PortolanChart two = Charts.of(ALL + "harbour xay 2 0;harbour ba 0 2;harbour q 4 4 red;place xay right;"
            + "place ba down;place q up");
        two.setRed(1, true);
        Check.same("37 a name that it does not cross stays", "-1 2 0", directions(two));
        PortolanChart placed = Charts.of(PLACED + "turn 0");
        placed.lift(2);
        placed.setRed(2, true);
        Check.same("37 a name that is not placed crosses none", "0 1 -1 3", directions(placed));
        placed.setRed(0, false);
        Check.same("37 not red: none is lifted", "0 1 -1 3", directions(placed));
    }

    private static void erodeLetters() {
        for (int letter = 1; letter <= 3; letter++) {
            PortolanChart chart = Charts.of(ALL + "harbour xyz 2 0;harbour q 4 4;place xyz right;place q left");
            Check.same("40 one name, by each of its letters", 1, chart.erode(10 + letter));
            Check.same("40 the other one stays", "-1 3", directions(chart));
            Check.same("40 sea", 0, chart.cell(10 + letter, 0));
        }
        PortolanChart chart = Charts.of(PLACED + "turn 0");
        Check.same("40 none", 0, chart.erode(24));
        Check.same("40 four names", 4, chart.erode(12));
        Check.same("40 how many cells of land", 23, chart.size(2));
        PortolanChart beside = Charts.of("chart 3 5;land 0 0 4;land 1 0 4;harbour a 0 2;place a down");
        Check.same("40 beside a name, none", 0, beside.erode(6));
        Check.same("40 it stays", 2, beside.harbour(0, 2));
        Check.same("40 the sea beside a harbour lets it go further inland", 1, beside.why(0, 1));
        Check.same("40 beside the harbour", 0, beside.erode(1));
        Check.same("12 inland to the right now", 0, beside.why(0, 1));
    }

    private static void erodeWrong() {
        PortolanChart chart = Charts.of(ALL + "harbour a 0 0;river 4 4");
        Check.same("40 WRONG for a harbour", -3, chart.erode(0));
        Check.same("40 WRONG for a river", -3, chart.erode(24));
        Check.same("40 land", 0, chart.erode(1));
        Check.same("40 WRONG for sea", -3, chart.erode(1));
        Check.same("s5 one action", 1, chart.size(11));
        chart.dropRiver(0);
        Check.same("40 where a river was", 0, chart.erode(24));
    }

    /** A block of land in the sea with harbours in two of its corners, so that each still has the sea beside it. */
    private static void raiseBehindAName() {
        String block = "chart 5 5;land 1 1 3;land 2 1 3;land 3 1 3;harbour a 1 1;harbour b 3 3;";
        int[] harbour = {1, 0, 0, 1};
        int[] behind = {23, 5, 1, 19};
        int[] aside = {19, 1, 5, 23};
        String[] words = {"b up", "a right", "a down", "b left"};
        for (int direction = 0; direction < 4; direction++) {
            String text = block + "place " + words[direction];
            PortolanChart chart = Charts.of(text);
            Check.same("41 it does not go inland any more", 1, chart.raise(behind[direction]));
            Check.same("41 it is lifted", -1, chart.harbour(harbour[direction], 2));
            Check.same("12 reason 1", 1, chart.why(harbour[direction], direction));
            PortolanChart stays = Charts.of(text);
            Check.same("41 it still goes inland", 0, stays.raise(aside[direction]));
            Check.same("41 it stays", direction, stays.harbour(harbour[direction], 2));
        }
        PortolanChart ahead = Charts.of("chart 3 5;land 1 1 3;harbour a 1 1;place a right");
        Check.same("41 the sea ahead of a name", 0, ahead.raise(9));
        Check.same("41 it stays", 1, ahead.harbour(0, 2));
        PortolanChart both = Charts.of("chart 3 5;land 1 0 1;land 1 3 4;harbour a 1 3;harbour b 1 1;place a right;"
            + "place b left");
        Check.same("41 two names from one cell", 2, both.raise(7));
        PortolanChart not = Charts.of(block + "turn 0");
        Check.same("41 names that are not placed", 0, not.raise(5));
    }

    private static void raiseWrong() {
        String[] shut = {"land 2 0 2;land 3 1 1", "land 1 1 1;land 2 0 1;land 3 1 1", "land 1 1 1;land 2 0 2",
            "land 1 1 1;land 2 1 2;land 3 1 1"};
        int[] only = {6, 12, 16, 10};
        for (int side = 0; side < 4; side++) {
            PortolanChart chart = Charts.of("chart 5 5;" + shut[side] + ";harbour a 2 1");
            Check.same("41 WRONG: the only sea beside a harbour", -3, chart.raise(only[side]));
            Check.same("s5 it stays sea", 0, chart.cell(only[side], 0));
            Check.same("s5 no action", 0, chart.size(11));
        }
        PortolanChart more = Charts.of("chart 5 5;land 2 0 2;harbour a 2 1");
        Check.same("41 there is more sea", 0, more.raise(6));
        Check.same("41 now it is the only one", -3, more.raise(16));
        PortolanChart rim = Charts.of("chart 3 3;land 0 0 2;harbour a 0 1");
        Check.same("41 at the rim there is always more", 0, rim.raise(4));
        PortolanChart land = Charts.of("chart 3 3;land 0 0 2;harbour a 0 0;river 0 2");
        Check.same("41 WRONG for land", -3, land.raise(1));
        Check.same("41 WRONG for a harbour", -3, land.raise(0));
        Check.same("41 WRONG for a river", -3, land.raise(2));
        Check.same("41 the last cell", 0, land.raise(8));
        Check.same("6 one more", 4, land.size(2));
        PortolanChart second = Charts.of("chart 5 5;land 0 0 0;land 2 0 2;land 3 1 1;harbour b 0 0;harbour a 2 1");
        Check.same("41 WRONG for the second harbour", -3, second.raise(6));
    }

    private static void sailUpTo16() {
        PortolanChart chart = Charts.of(CROSS + "turn 0");
        for (int count = 1; count <= 16; count++) {
            Check.same("42 how many are in it then", count, chart.sail(count % 4));
            Check.same("42 at the end", count % 4, chart.voyage(count - 1));
            Check.same("6 the place stays", 0, chart.size(9));
        }
        Check.same("42 FULL if there are 16", -2, chart.sail(0));
        Check.same("42 nothing changes", 16, chart.size(7));
        Check.same("8 how often", 4, chart.harbour(3, 4));
        chart.cut(0);
        Check.same("42 one more", 16, chart.sail(2));
        for (int bad : NO_HARBOUR) {
            Check.noIndex("42 the exception ahead of FULL", () -> chart.sail(bad));
        }
    }

    private static void cutAndThePlace() {
        // for each place in a voyage of four, each cut
        for (int place = 0; place < 4; place++) {
            for (int index = 0; index < 4; index++) {
                PortolanChart chart = Charts.of(CROSS + "voyage ax bx cx dx");
                for (int i = 0; i < place; i++) {
                    chart.read();
                }
                Check.same("43 the harbour", index, chart.cut(index));
                int due = place > index ? place - 1 : place == 3 ? 0 : place;
                Check.same("43 the place " + place + " behind cut(" + index + ")", due, chart.size(9));
                Check.same("6 three are left", 3, chart.size(7));
                Check.same("43 that one is out", 0, chart.harbour(index, 4));
                Check.noIndex("43 no such place any more", () -> chart.cut(3));
            }
        }
        PortolanChart one = Charts.of(CROSS + "voyage dx");
        Check.same("43 the only one", 3, one.cut(0));
        Check.same("43 the place", 0, one.size(9));
        Check.noIndex("43 none is left", () -> one.cut(0));
        Check.same("45 WRONG if the voyage is empty", -3, one.read());
        PortolanChart none = new PortolanChart();
        for (int bad : new int[] {Integer.MIN_VALUE, -1, 0, 15, 16, Integer.MAX_VALUE}) {
            Check.noIndex("43 no voyage", () -> none.cut(bad));
        }
    }

    private static void turnPage() {
        for (int from = 0; from < 4; from++) {
            for (int to = 0; to < 4; to++) {
                PortolanChart chart = Charts.of("chart 3 3;turn " + from);
                int gap = Math.abs(from - to);
                int due = gap == 3 ? 1 : gap;
                Check.same("44 the shorter way", due, chart.turnPage(to));
                Check.same("6 its quarter turns count", due, chart.size(10));
                Check.same("6 how the page is turned", to, chart.size(8));
                Check.same("s5 an action, also if it changes nothing", 1, chart.size(11));
            }
        }
        PortolanChart chart = Charts.of("chart 3 3;turn 1");
        for (int bad : NOT_0_TO_3) {
            Check.noArgument("44 turn", () -> chart.turnPage(bad));
        }
        Check.same("44 nothing changes", 1, chart.size(8));
    }

    private static void read() {
        for (int turn = 0; turn < 4; turn++) {
            for (int direction = 0; direction < 4; direction++) {
                PortolanChart chart = Charts.of(CROSS + "turn " + turn);
                chart.sail(direction);
                chart.place(direction, direction);
                int due = chart.turning();
                Check.same("45 the harbour", direction, chart.read());
                Check.same("45 its quarter turns count", due, chart.size(10));
                Check.same("45 the page is turned as it must be", 1 << direction, chart.upright(chart.size(8)));
                Check.same("19 no turning is left", 0, chart.turning());
                chart.lift(direction);
                chart.turnPage(turn);
                int quarters = chart.size(10);
                Check.same("45 not placed", direction, chart.read());
                Check.same("45 the page stays", turn, chart.size(8));
                Check.same("45 no quarter turns", quarters, chart.size(10));
            }
        }
        Check.same("45 WRONG if the voyage is empty", -3, Charts.of(PLACED + "turn 3").read());
        Check.same("45 WRONG for a new object", -3, new PortolanChart().read());
    }

    private static void readPlaces() {
        PortolanChart chart = Charts.of(CROSS + "voyage ax bx cx;place bx right");
        int[] harbours = {0, 1, 2, 0, 1, 2, 0};
        for (int i = 0; i < harbours.length; i++) {
            Check.same("6 the place", i % 3, chart.size(9));
            Check.same("45 the next one, also if the name is not placed", harbours[i], chart.read());
        }
        PortolanChart one = Charts.of(CROSS + "voyage ax");
        one.read();
        Check.same("45 0 behind the only one", 0, one.size(9));
        one.sail(1);
        one.read();
        Check.same("45 the one that was added", 1, one.size(9));
    }

    private static void anActionThatChangesNothing() {
        PortolanChart chart = Charts.of(CROSS + "place ax up;voyage bx");
        chart.arrange();
        String before = Charts.state(chart);
        Call[] calls = {it -> it.place(0, 0), it -> it.arrange(), it -> it.setRed(0, false), it -> it.turnPage(0)};
        for (int i = 0; i < calls.length; i++) {
            calls[i].on(chart);
            Check.same("s5 it changes nothing", before, Charts.state(chart));
            Check.same("s5 it counts also", i + 2, chart.size(11));
        }
        chart.setRed(3, true);
        chart.setRed(3, true);
        Check.same("s5 red already", 7, chart.size(11));
        for (int i = 6; i >= 0; i--) {
            Check.same("50 each is taken back", i, chart.undo());
        }
        PortolanChart reads = Charts.of(CROSS + "voyage bx");
        before = Charts.state(reads);
        Check.same("45 one that is not placed, alone", 1, reads.read());
        Check.same("s5 it changes nothing", before, Charts.state(reads));
        Check.same("s5 it counts also", 1, reads.size(11));
    }

    private static void predictionsChangeNothing() {
        PortolanChart chart = Charts.of(PLACED + "harbour n 0 0;harbour no 4 4 red;river 4 1;voyage ax n dx;turn 2");
        chart.read();
        String before = Charts.state(chart);
        chart.writeRow(2);
        for (int cell = 0; cell < 25; cell++) {
            chart.wayLength(cell);
            chart.wayCell(cell, 0);
            chart.washes(cell);
            chart.drowns(cell);
            for (int what = 0; what < 6; what++) {
                chart.cell(cell, what);
            }
        }
        for (int harbour = 0; harbour < 6; harbour++) {
            chart.leastIf(harbour, true);
            chart.placedIf(harbour, false);
            chart.arranged(harbour);
            chart.ways(harbour);
            chart.crossed(harbour);
            for (int direction = 0; direction < 4; direction++) {
                chart.why(harbour, direction);
                chart.room(harbour, direction);
                chart.upright(direction);
                chart.turningFrom(direction);
            }
        }
        String found = found(chart);
        Check.same("s5 the same calls always give the same answers", found, found(chart));
        Check.same("s5 predictions leave the output", "64 98", chart.outputByte(0) + " " + chart.outputByte(1));
        Check.same("s5 predictions change nothing", before, Charts.state(chart));
        Check.same("s5 they are no actions", 1, chart.size(11));
    }

    private static String found(PortolanChart chart) {
        return chart.least() + " " + chart.placedThen() + " " + chart.shy() + " " + chart.mildest() + " "
            + chart.bestTurn() + " " + chart.hardest() + " " + chart.turning() + " " + chart.crossings() + " "
            + chart.free() + " " + chart.meanTurn() + " " + chart.cover();
    }

    private static void refusalsChangeNothing() {
        PortolanChart chart = Charts.of(PLACED + "harbour n 0 0;river 4 4;voyage" + " ax".repeat(16));
        chart.turnPage(1);
        chart.writeRow(0);
        String before = Charts.state(chart);
        Call[] calls = {it -> it.place(4, 0), it -> it.place(0, 1), it -> it.lift(4), it -> it.addRiver(0),
            it -> it.addRiver(24), it -> it.erode(0), it -> it.erode(24), it -> it.raise(0), it -> it.sail(0),
            it -> it.undo() + it.turnPage(1)};
        String[] due = {"-3", "-3", "-3", "-3", "-3", "-3", "-3", "-3", "-2", "1"};
        for (int i = 0; i < calls.length; i++) {
            Call call = calls[i];
            Check.same("s5 refused " + i, due[i], Check.answer(() -> call.on(chart)));
            Check.same("s5 nothing changes " + i, before, Charts.state(chart));
            Check.same("s5 it does not count " + i, 1, chart.size(11));
        }
        Check.same("50 the action ahead of them", 0, chart.undo());
        Check.same("50 it is taken back", 0, chart.size(8));
    }

    private static void exceptionsComeBeforeErrors() {
        PortolanChart chart = Charts.of(CROSS + "voyage" + " ax".repeat(16));
        for (int bad : NO_HARBOUR) {
            Check.noIndex("34 the harbour is named first", () -> chart.place(bad, 4));
            Check.noIndex("34 ahead of WRONG", () -> chart.place(bad, 0));
            Check.noIndex("35 ahead of WRONG", () -> chart.lift(bad));
            Check.noIndex("37 no such harbour", () -> chart.setRed(bad, true));
            Check.noIndex("37 no such harbour", () -> chart.setRed(bad, false));
            Check.noIndex("42 ahead of FULL", () -> chart.sail(bad));
        }
        for (int bad : NOT_0_TO_3) {
            Check.noArgument("34 ahead of WRONG", () -> chart.place(0, bad));
        }
        for (int bad : NO_CELL) {
            Check.noIndex("40 ahead of WRONG", () -> chart.erode(bad));
            Check.noIndex("41 ahead of WRONG", () -> chart.raise(bad));
        }
        for (int bad : new int[] {Integer.MIN_VALUE, -1, 2, Integer.MAX_VALUE}) {
            Check.noArgument("51 slot", () -> chart.saveSnapshot(bad));
            Check.noArgument("52 slot, also if nothing was saved", () -> chart.restoreSnapshot(bad));
        }
        for (int bad : new int[] {Integer.MIN_VALUE, -1, 16, Integer.MAX_VALUE}) {
            Check.noIndex("43 no such place", () -> chart.cut(bad));
        }
        Check.same("s5 exceptions change nothing", 0, chart.size(11));
    }

    private static void theLatestEight() {
        for (int actions = 0; actions <= 20; actions++) {
            PortolanChart chart = Charts.of("chart 3 12;land 0 0 11");
            for (int i = 0; i < actions; i++) {
                chart.raise(12 + i);
            }
            int kept = Math.min(actions, 8);
            Check.same("6 at most 8", kept, chart.size(11));
            for (int i = kept - 1; i >= 0; i--) {
                Check.same("50 how many are left", i, chart.undo());
                Check.same("50 the latest one was taken back", 12 + actions - kept + i, chart.size(2));
            }
            Check.same("50 NONE if there is none", -1, chart.undo());
            Check.same("50 nothing changes then", 12 + actions - kept, chart.size(2));
            Check.same("6 none", 0, chart.size(11));
        }
        PortolanChart chart = Charts.of("chart 3 12;land 0 0 11");
        for (int round = 0; round < 30; round++) {
            chart.raise(12 + round % 12);
            chart.erode(12 + round % 12);
            Check.same("50 one back", Math.min(7, round + 1), chart.undo());
            Check.same("50 it is land", 1, chart.cell(12 + round % 12, 0));
            chart.erode(12 + round % 12);
            chart.turnPage(round % 4);
            Check.same("50 one back", Math.min(7, round + 2), chart.undo());
            chart.undo();
            chart.undo();
            Check.same("50 it is sea", 0, chart.cell(12 + round % 12, 0));
            chart.turnPage(0);
        }
    }

    private static void undoStaysOut() {
        PortolanChart chart = Charts.of(ALL + "harbour ab 0 0;voyage ab");
        chart.saveSnapshot(0);
        Charts.type(chart, "chart");
        chart.place(0, 1);
        chart.writeRow(0);
        chart.saveSnapshot(1);
        Check.same("50 taken back", 0, chart.undo());
        Check.same("50 the output stays", 'a', chart.outputByte(1));
        Check.same("50 the input stays", 5, chart.append(0));
        Check.same("50 a snapshot stays", 1, chart.restoreSnapshot(1));
        Check.same("50 as it was saved", 1, chart.harbour(0, 2));
        Check.same("50 the earlier one, too", 1, chart.restoreSnapshot(0));
        Check.same("50 as it was saved", -1, chart.harbour(0, 2));
        Check.same("3 the input was chart alone", -105, chart.load());
        chart.place(0, 2);
        chart.undo();
        Check.same("50 the results of load stay", "1 0", chart.loadError() + " " + chart.loadStatement());
    }

    private static void snapshotSlots() {
        PortolanChart chart = new PortolanChart();
        for (int slot = 0; slot < 2; slot++) {
            Check.same("52 NONE if nothing was saved there", -1, chart.restoreSnapshot(slot));
        }
        Check.same("51 no harbours", 0, chart.saveSnapshot(1));
        Check.same("52 nothing in the other slot", -1, chart.restoreSnapshot(0));
        Check.same("52 no harbours", 0, chart.restoreSnapshot(1));
        Charts.load(chart, CROSS + "turn 1");
        Check.same("51 four harbours", 4, chart.saveSnapshot(0));
        Check.same("52 the slot 1 stays", 0, chart.restoreSnapshot(1));
        Check.same("6 three rows", 3, chart.size(0));
        Check.same("52 the slot 0 stays", 4, chart.restoreSnapshot(0));
        Check.same("6 five rows", 5, chart.size(0));
        chart.turnPage(2);
        Check.same("51 over the old one", 4, chart.saveSnapshot(0));
        chart.turnPage(3);
        chart.restoreSnapshot(0);
        Check.same("52 the new one", 2, chart.size(8));
        Check.same("52 NONE changes nothing", 1, empty().size(11));
    }

    private static PortolanChart empty() {
        PortolanChart chart = new PortolanChart();
        chart.raise(4);
        Check.same("52 NONE", -1, chart.restoreSnapshot(1));
        Check.same("52 nothing changes", 1, chart.size(2));
        return chart;
    }

    private static void whatASnapshotHolds() {
        PortolanChart chart = Charts.of(PLACED + "river 4 4;voyage ax bx cx;turn 3");
        chart.read();
        chart.read();
        chart.setRed(3, false);
        String due = Charts.state(chart);
        chart.saveSnapshot(0);
        Check.same("51 it is no action", 3, chart.size(11));
        chart.read();
        chart.turnPage(2);
        chart.setRed(1, true);
        chart.dropRiver(0);
        chart.erode(6);
        chart.cut(2);
        chart.writeRow(0);
        Charts.type(chart, "chart 9 9;!");
        Check.same("3 an error", -110, chart.load());
        Charts.type(chart, "ch");
        Check.same("52 the harbours", 4, chart.restoreSnapshot(0));
        Check.same("52 everything", due, Charts.state(chart));
        Check.same("52 not the input", 2, chart.append(0));
        Check.same("52 not the results of load", "1 1", chart.loadError() + " " + chart.loadStatement());
        Check.same("52 not the actions", 0, chart.size(11));
        chart.lift(0);
        chart.restoreSnapshot(0);
        Check.same("52 it stays", due, Charts.state(chart));
        PortolanChart output = Charts.of("chart 3 3;land 0 0 2");
        output.saveSnapshot(0);
        output.writeRow(0);
        output.restoreSnapshot(0);
        Check.same("52 not the output", '.', output.outputByte(2));
    }

    private static void whatEndsTheActions() {
        PortolanChart chart = Charts.of(CROSS + "turn 0");
        chart.saveSnapshot(0);
        chart.turnPage(1);
        chart.turnPage(2);
        chart.restoreSnapshot(0);
        Check.same("52 nothing can be taken back then", -1, chart.undo());
        chart.turnPage(3);
        Check.same("50 what comes later can", 0, chart.undo());
        chart.turnPage(3);
        Charts.load(chart, "chart 3 3");
        Check.same("3 nothing can be taken back", -1, chart.undo());
        Check.same("3 nothing changed", 3, chart.size(0));
        chart.raise(4);
        chart.saveSnapshot(1);
        Check.same("51 the actions stay", 0, chart.undo());
    }

    private static void calls512() {
        PortolanChart chart = Charts.of(PLACED + "voyage ax bx cx dx");
        for (int i = 0; i < 450; i++) {
            Check.same("45 also late", i % 4, chart.read());
        }
        Check.same("6 one quarter turn ahead of each", 450, chart.size(10));
        Check.same("6 eight", 8, chart.size(11));
    }
}
