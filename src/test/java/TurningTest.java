/** Promises 18 to 22: how the page must be turned. */
public final class TurningTest {
    // one harbour with a name of one letter in the middle of each side: a up, b right, c down, d left
    private static final String CROSS = "chart 5 5;land 0 0 4;land 1 0 4;land 2 0 4;land 3 0 4;land 4 0 4;"
        + "harbour a 4 2;harbour b 2 0;harbour c 0 2;harbour d 2 4;harbour e 0 0;";
    private static final String PLACED = "place a up;place b right;place c down;place d left;";

    public static void main(String[] args) {
        upright();
        turning();
        bestTurn();
        hardest();
        Check.end();
    }

    private static void upright() {
        PortolanChart chart = Charts.of(CROSS + PLACED + "turn 2");
        Check.same("18 right", 2, chart.upright(0));
        Check.same("18 down", 4, chart.upright(1));
        Check.same("18 left", 8, chart.upright(2));
        Check.same("18 up", 1, chart.upright(3));
        chart.place(4, 1);
        Check.same("18 two", 18, chart.upright(0));
        chart.lift(1);
        Check.same("18 only those that are placed", 16, chart.upright(0));
        Check.same("18 none", 0, new PortolanChart().upright(0));
        for (int turn : new int[] {-1, 4, Integer.MIN_VALUE, Integer.MAX_VALUE}) {
            Check.noArgument("18 turn", () -> chart.upright(turn));
            Check.noArgument("20 turn", () -> chart.turningFrom(turn));
        }
    }

    private static void from(PortolanChart chart, String due) {
        StringBuilder got = new StringBuilder();
        for (int turn = 0; turn < 4; turn++) {
            got.append(turn == 0 ? "" : " ").append(chart.turningFrom(turn));
        }
        Check.same("20 from each turn", due, got.toString());
        for (int turn = 0; turn < 4; turn++) {
            chart.turnPage(turn);
            Check.same("19 from the turn as it is", chart.turningFrom(turn), chart.turning());
        }
    }

    private static void turning() {
        from(Charts.of(CROSS + PLACED + "voyage b"), "0 1 2 1");
        from(Charts.of(CROSS + PLACED + "voyage c"), "1 0 1 2");
        from(Charts.of(CROSS + PLACED + "voyage d"), "2 1 0 1");
        from(Charts.of(CROSS + PLACED + "voyage a"), "1 2 1 0");
        from(Charts.of(CROSS + PLACED + "voyage b d"), "2 3 4 3");
        from(Charts.of(CROSS + PLACED + "voyage b a"), "1 2 3 2");
        from(Charts.of(CROSS + PLACED + "voyage a b c d a"), "5 6 5 4");
        from(Charts.of(CROSS + PLACED + "voyage a a c c"), "3 4 3 2");
        from(Charts.of(CROSS + PLACED + "voyage e b e e d e"), "2 3 4 3");
        from(Charts.of(CROSS + "voyage a b c d"), "0 0 0 0");
        from(Charts.of(CROSS + PLACED + "turn 1"), "0 0 0 0");
        from(new PortolanChart(), "0 0 0 0");
        Check.same("19 the turn of the text", 2, Charts.of(CROSS + PLACED + "voyage b;turn 2").turning());
    }

    private static void bestTurn() {
        Check.same("21 b", 0, Charts.of(CROSS + PLACED + "voyage b;turn 1").bestTurn());
        Check.same("21 c", 1, Charts.of(CROSS + PLACED + "voyage c b b").bestTurn());
        Check.same("21 d", 2, Charts.of(CROSS + PLACED + "voyage d a").bestTurn());
        Check.same("21 a", 3, Charts.of(CROSS + PLACED + "voyage a c").bestTurn());
        Check.same("21 none counts", 0, Charts.of(CROSS + "voyage a c;turn 3").bestTurn());
        Check.same("21 no voyage", 0, Charts.of(CROSS + "turn 2").bestTurn());
    }

    private static void hardest() {
        Check.same("22 the first one of several", 1, Charts.of(CROSS + PLACED + "voyage b c b c;turn 0").hardest());
        Check.same("22 the hardest one", 2, Charts.of(CROSS + PLACED + "voyage b c a c").hardest());
        Check.same("22 from the page", 0, Charts.of(CROSS + PLACED + "voyage b c;turn 2").hardest());
        Check.same("22 not the page once turned", 1, Charts.of(CROSS + PLACED + "voyage b d c;turn 3").hardest());
        Check.same("22 names that are not placed", 3, Charts.of(CROSS + PLACED + "voyage e b e d e").hardest());
        Check.same("22 no turn is needed", -1, Charts.of(CROSS + PLACED + "voyage b b e b").hardest());
        Check.same("22 no voyage", -1, Charts.of(CROSS + PLACED + "turn 2").hardest());
        Check.same("22 none placed", -1, Charts.of(CROSS + "voyage a b c d").hardest());
    }
}
