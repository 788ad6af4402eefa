/** Sections 2 and 3 on names, promises 12 to 16 and 18 to 22: each sentence that names a boundary. */
public final class NameEdgesTest {
    private static final String ALL = Charts.allLand(5, 5) + ";";
    /** The harbour cells above, right, below and left of the middle, from where names lead through it. */
    private static final String[] START = {"4 2", "2 0", "0 2", "2 4"};
    private static final String SIDES = ALL + "harbour u 4 2;harbour r 2 0;harbour d 0 2;harbour l 2 4;harbour n 0 0;"
        + "place u up;place r right;place d down;place l left;";
    private static final int[] BAD = {Integer.MIN_VALUE, -1, 4, 5, 32, Integer.MAX_VALUE};

    public static void main(String[] args) {
        lettersFromTheHarbourOn();
        doesNotGoInland();
        askedOfAllItsLetters();
        theLowestReason();
        lettersOfAnother();
        ownLetters();
        sharedCells();
        room();
        crossings();
        upright();
        quarterTurns();
        turningOfAVoyage();
        bestTurn();
        hardest();
        exceptions();
        Check.end();
    }

    private static void reasons(String label, String due, PortolanChart chart, int harbour) {
        StringBuilder got = new StringBuilder();
        int ways = 0;
        for (int direction = 0; direction < 4; direction++) {
            int reason = chart.why(harbour, direction);
            got.append(direction == 0 ? "" : " ").append(reason);
            ways |= reason == 0 ? 1 << direction : 0;
        }
        Check.same("12 " + label, due, got.toString());
        Check.same("13 " + label, ways, chart.ways(harbour));
    }

    private static void lettersFromTheHarbourOn() {
        String[] due = {"...../..c../..b../..a../..@..", "...../...../@abc./...../.....",
            "..@../..a../..b../..c../.....", "...../...../.cba@/...../....."};
        for (int direction = 0; direction < 4; direction++) {
            PortolanChart chart = Charts.of(ALL + "harbour abc " + START[direction]);
            Check.same("34 it may", -1, chart.place(0, direction));
            Check.same("s2 one letter in each cell, the first one beside the harbour", due[direction],
                Charts.picture(chart));
            for (int other = 0; other < 4; other++) {
                Check.same("12 one DIRECTION goes inland", other == direction ? 0 : 1, chart.why(0, other));
            }
        }
    }

    private static void doesNotGoInland() {
        reasons("beyond the rim is not land", "2 1 3 1", Charts.of("chart 3 3;land 0 0 2;harbour a 0 1"), 0);
        reasons("sea is not land", "3 0 3 1", Charts.of("chart 3 5;land 1 1 3;harbour a 1 1"), 0);
        reasons("sea on all sides", "3 3 3 3", Charts.of("chart 3 3;land 1 1 1;harbour a 1 1"), 0);
        reasons("a river on the other side", "3 1 3 1",
            Charts.of("chart 3 5;land 1 0 3;harbour a 1 1;river 1 0"), 0);
        reasons("a harbour on the other side", "3 1 3 1",
            Charts.of("chart 3 5;land 1 0 3;harbour a 1 1;harbour b 1 0"), 0);
        reasons("a letter on the other side", "3 1 3 1",
            Charts.of("chart 3 5;land 1 0 3;harbour a 1 2;harbour b 1 0;place b right"), 0);
    }

    /** The one letter against which a reason stands is the first one, one in the middle, or the last one. */
    private static void askedOfAllItsLetters() {
        String strip = "chart 3 9;land 1 0 ";
        for (int letters = 1; letters <= 8; letters++) {
            String harbour = ";harbour " + "abcdefgh".substring(0, letters) + " 1 0";
            Check.same("12 it fits to the rim", 0, Charts.of(strip + "8" + harbour).why(0, 1));
            Check.same("12 3 the last letter in the sea", 3,
                Charts.of(strip + (letters - 1) + harbour).why(0, 1));
            Check.same("12 the last letter on land", 0, Charts.of(strip + letters + harbour).why(0, 1));
            for (int at = 1; at <= 8; at++) {
                PortolanChart river = Charts.of(strip + "8" + harbour + ";river 1 " + at);
                Check.same("12 4 on a river", at <= letters ? 4 : 0, river.why(0, 1));
                PortolanChart port = Charts.of(strip + "8" + harbour + ";harbour q 1 " + at);
                Check.same("12 5 in the cell of a harbour", at <= letters ? 5 : 0, port.why(0, 1));
                port = Charts.of(strip + "8;harbour q 1 " + at + harbour);
                Check.same("12 5 in the cell of an earlier harbour", at <= letters ? 5 : 0, port.why(1, 1));
                PortolanChart sea = Charts.of(strip + "8" + harbour);
                sea.erode(9 + at);
                Check.same("12 3 in the sea", at <= letters ? 3 : 0, sea.why(0, 1));
            }
        }
        for (int columns = 3; columns <= 8; columns++) {
            PortolanChart chart = Charts.of("chart 3 " + columns + ";land 1 0 " + (columns - 1) + ";harbour "
                + "abcdefgh".substring(0, columns) + " 1 0;harbour " + "abcdefgh".substring(1, columns) + " 1 "
                + (columns - 1));
            chart.place(1, 3);
            Check.same("12 2 the last letter beyond the rim", 2, chart.why(0, 1));
        }
    }

    private static void theLowestReason() {
        String name = ";harbour abcd 1 0";
        String strip = "chart 3 5;land 1 0 ";
        reasons("1 ahead of 2", "2 0 2 1", Charts.of(strip + "4" + name), 0);
        reasons("2 ahead of 3, the later letter", "2 2 2 1", Charts.of("chart 3 4;land 1 0 2" + name), 0);
        reasons("2 ahead of 4, the later letter", "2 2 2 1",
            Charts.of("chart 3 4;land 1 0 3" + name + ";river 1 1"), 0);
        reasons("2 ahead of 5, the later letter", "2 2 2 1",
            Charts.of("chart 3 4;land 1 0 3" + name + ";harbour q 1 1"), 0);
        reasons("3 ahead of 4, the later letter", "2 3 2 1", Charts.of(strip + "3" + name + ";river 1 1"), 0);
        reasons("3 ahead of 5, the later letter", "2 3 2 1", Charts.of(strip + "3" + name + ";harbour q 1 1"), 0);
        reasons("4 ahead of 5, the later letter", "2 4 2 1",
            Charts.of(strip + "4" + name + ";harbour q 1 1;river 1 4"), 0);
        reasons("4 ahead of 5, the earlier letter", "2 4 2 1",
            Charts.of(strip + "4" + name + ";harbour q 1 4;river 1 1"), 0);
        PortolanChart five = Charts.of(ALL + "harbour xyzw 2 0;harbour ab 0 1;harbour q 2 4;place ab down");
        reasons("5 ahead of 6, the later letter", "1 5 1 1", five, 0);
        PortolanChart six = Charts.of(ALL + "harbour xyz 2 0;harbour ab 0 1;harbour q 2 4;place ab down");
        reasons("6 alone", "1 6 1 1", six, 0);
        PortolanChart four = Charts.of(ALL + "harbour xyzw 2 0;harbour ab 0 1;river 2 4;place ab down");
        reasons("4 ahead of 6, the later letter", "1 4 1 1", four, 0);
        PortolanChart three = Charts.of(ALL + "harbour xyzw 2 0;harbour ab 0 1;place ab down");
        three.erode(14);
        reasons("3 ahead of 6, the later letter", "1 3 1 1", three, 0);
        PortolanChart two = Charts.of(ALL + "harbour vwxyz 2 0;harbour ab 0 1;place ab down");
        reasons("2 ahead of 6, the later letter", "1 2 1 1", two, 0);
        PortolanChart one = Charts.of(ALL + "harbour aaa 0 2;harbour bbb 0 0;harbour ccc 2 4;place ccc left");
        Check.same("12 1 ahead of 5", 1, one.why(0, 3));
        Check.same("12 6 on another way", 6, one.why(0, 2));
    }

    /** Each pair of directions through the middle, alike or unlike, red or not. */
    private static void lettersOfAnother() {
        for (int one = 0; one < 4; one++) {
            for (int two = 0; two < 4; two++) {
                if (one == two) {
                    continue;
                }
                for (int reds = 0; reds < 4; reds++) {
                    String start = ALL + "harbour ax " + START[one] + ((reds & 1) != 0 ? " red" : "") + ";harbour b";
                    String end = " " + START[two] + ((reds & 2) != 0 ? " red" : "");
                    PortolanChart like = Charts.of(start + "x" + end);
                    Check.same("12 not placed, so in no one's way", 0, like.why(1, two));
                    like.place(0, one);
                    Check.same("12 alike, and whether one of both is red", reds == 0 ? 0 : 6, like.why(1, two));
                    Check.same("12 the other one's own letters", 0, like.why(0, one));
                    Check.same("34 as why told", reds == 0 ? -1 : -3, like.place(1, two));
                    Check.same("15 they cross then", reds == 0 ? 1 : 0, like.crossings());
                    Check.same("16 they cross then", reds == 0 ? 2 : 0, like.crossed(0));
                    Check.same("16 they cross then", reds == 0 ? 1 : 0, like.crossed(1));
                    PortolanChart unlike = Charts.of(start + "y" + end);
                    unlike.place(0, one);
                    Check.same("12 unlike", 6, unlike.why(1, two));
                    Check.same("34 as why told", -3, unlike.place(1, two));
                }
            }
        }
    }

    private static void ownLetters() {
        PortolanChart chart = Charts.of(ALL + "harbour aba 0 0 red;harbour q 4 4;place aba right");
        reasons("its own letters do not count, also if it is red", "1 0 0 1", chart, 0);
        Check.same("34 the same way once more", 1, chart.place(0, 1));
        Check.same("34 the other way", 1, chart.place(0, 2));
        PortolanChart line = Charts.of("chart 3 6;land 1 0 5;harbour aaaa 1 0 red;harbour b 1 5;place aaaa right");
        Check.same("12 a red name against the letters of another", 6, line.why(1, 3));
        Check.same("12 not against its own", 0, line.why(0, 1));
    }

    private static void sharedCells() {
        String four = ALL + "harbour ax 4 2;harbour bx 2 0;harbour cx 0 2;harbour dx 2 4;place ax up;place bx right;"
            + "place cx down;place dx left";
        PortolanChart chart = Charts.of(four);
        Check.same("s2 four names with a letter in the same cell", 15, chart.cell(12, 4));
        Check.same("7 the letter", 'x', chart.cell(12, 3));
        Check.same("15 each pair", 6, chart.crossings());
        for (int harbour = 0; harbour < 4; harbour++) {
            Check.same("16 the other three", 15 - (1 << harbour), chart.crossed(harbour));
            Check.same("35 one of them is lifted", harbour, chart.lift(harbour));
            Check.same("7 the letter stays", 'x', chart.cell(12, 3));
            Check.same("7 the other three", 15 - (1 << harbour), chart.cell(12, 4));
            Check.same("15 three pairs", 3, chart.crossings());
            Check.same("16 not placed", 0, chart.crossed(harbour));
            chart.undo();
        }
        Check.same("33 all four drown", 15, chart.drowns(12));
        Check.same("40 all four", 4, chart.erode(12));
        Check.same("15 none", 0, chart.crossings());
    }

    private static void rooms(String label, String due, String text, int harbour) {
        PortolanChart chart = Charts.of(text);
        StringBuilder got = new StringBuilder();
        for (int direction = 0; direction < 4; direction++) {
            got.append(direction == 0 ? "" : " ").append(chart.room(harbour, direction));
        }
        Check.same("14 " + label, due, got.toString());
    }

    private static void room() {
        rooms("up to the rim", "0 4 4 0", ALL + "harbour a 0 0", 0);
        rooms("of another harbour", "4 0 0 4", ALL + "harbour a 0 0;harbour b 4 4", 1);
        rooms("sea on all sides", "0 0 0 0", "chart 3 3;land 1 1 1;harbour a 1 1", 0);
        rooms("the rim on all sides but for one", "0 0 0 0", "chart 3 3;land 0 0 0;harbour a 0 0", 0);
        rooms("up to the sea", "0 2 0 0", "chart 3 5;land 1 1 3;harbour a 1 1", 0);
        rooms("up to a river", "0 2 4 0", ALL + "harbour a 0 0;river 0 3", 0);
        rooms("a river beside it", "0 0 4 0", ALL + "harbour a 0 0;river 0 1", 0);
        rooms("up to a harbour", "0 4 3 0", ALL + "harbour a 0 0;harbour b 4 0", 0);
        rooms("a harbour beside it", "0 4 0 0", ALL + "harbour a 0 0;harbour b 1 0", 0);
        rooms("letters are in no one's way", "2 4 2 0",
            ALL + "harbour a 2 0;harbour xy 0 2;place a right;place xy down", 0);
        rooms("also not inland", "4 2 0 2", ALL + "harbour a 4 2", 0);
        String longest = "chart 12 12;land 0 0 11;harbour a 0 0;harbour b ";
        Check.same("14 eleven cells", 11, Charts.of("chart 12 12;land 0 0 11;harbour a 0 0").room(0, 1));
        Check.same("14 eleven cells back", 11, Charts.of("chart 12 12;land 0 0 11;harbour a 0 11").room(0, 3));
        Check.same("14 ten cells", 10, Charts.of(longest + "0 11").room(0, 1));
        Check.same("14 eleven cells down", 11, Charts.of(Charts.allLand(12, 3) + ";harbour a 0 0").room(0, 2));
        Check.same("14 eleven cells up", 11, Charts.of(Charts.allLand(12, 3) + ";harbour a 11 1").room(0, 0));
    }

    private static void crossings() {
        Check.same("15 none at all", 0, new PortolanChart().crossings());
        String first = ALL + "harbour xab 2 0;harbour cxd 0 1;harbour z 4 4;";
        PortolanChart chart = Charts.of(first.replace("cxd 0 1", "cx 0 1") + "place xab right;place cx down");
        Check.same("16 on the first letter", "2 1 0",
            chart.crossed(0) + " " + chart.crossed(1) + " " + chart.crossed(2));
        PortolanChart last = Charts.of(ALL + "harbour b 4 4;harbour xab 2 0;harbour cb 0 3;place xab right;"
            + "place cb down");
        Check.same("16 on the last letter, longer than the first name", "0 4 2",
            last.crossed(0) + " " + last.crossed(1) + " " + last.crossed(2));
        Check.same("15 one pair", 1, last.crossings());
        last.lift(1);
        Check.same("35 all its letters are lifted", "...@./...c./@..b./...../....@",
            Charts.picture(last));
        Check.same("16 0 if it is not placed", 0, last.crossed(1));
        Check.same("16 no one crosses it any more", 0, last.crossed(2));
        PortolanChart pair = Charts.of("chart 3 8;land 1 0 7;harbour aaaaa 1 0;harbour aaaa 1 7;place aaaaa right;"
            + "place aaaa left");
        Check.same("15 a pair that shares many cells", 1, pair.crossings());
        Check.same("16 one name", "2 1", pair.crossed(0) + " " + pair.crossed(1));
        Check.same("17 six cells have letters", 0, pair.free());
        PortolanChart ahead = Charts.of(ALL + "harbour ab 2 0;harbour cb 0 3;place ab right;place cb down");
        Check.same("16 a letter behind its last one is in no same cell", "0 0", ahead.crossed(0) + " " + ahead.crossed(1));
        Check.same("15 no pair", 0, ahead.crossings());
    }

    private static void upright() {
        int[] due = {3, 0, 1, 2};
        for (int direction = 0; direction < 4; direction++) {
            PortolanChart chart = Charts.of(ALL + "harbour q 0 0;harbour abc " + START[direction]);
            for (int turn = 0; turn < 4; turn++) {
                Check.same("18 not placed", 0, chart.upright(turn));
            }
            chart.place(1, direction);
            for (int turn = 0; turn < 4; turn++) {
                Check.same("18 upright with one turn", turn == due[direction] ? 2 : 0, chart.upright(turn));
            }
            chart.turnPage(due[direction]);
            Check.same("18 however the page is turned", 2, chart.upright(due[direction]));
        }
    }

    private static void quarterTurns() {
        int[] direction = {1, 2, 3, 0};
        for (int to = 0; to < 4; to++) {
            PortolanChart chart = Charts.of(ALL + "harbour abc " + START[direction[to]] + ";voyage abc");
            chart.place(0, direction[to]);
            for (int from = 0; from < 4; from++) {
                int gap = Math.abs(from - to);
                Check.same("20 the least of both", gap == 3 ? 1 : gap, chart.turningFrom(from));
            }
        }
    }

    private static void turningOfAVoyage() {
        Check.same("19 no voyage", 0, Charts.of(SIDES + "turn 2").turning());
        Check.same("19 none placed", 0, Charts.of(SIDES + "voyage n n;turn 2").turning());
        Check.same("19 to the first one", 1, Charts.of(SIDES + "voyage u").turning());
        Check.same("19 over the one that is not placed", 2, Charts.of(SIDES + "voyage r n l").turning());
        Check.same("19 the same one again", 2, Charts.of(SIDES + "voyage l l l").turning());
        Check.same("19 sixteen half turns", 30, Charts.of(SIDES + "voyage r l r l r l r l r l r l r l r l").turning());
        Check.same("20 from the other side", 32,
            Charts.of(SIDES + "voyage r l r l r l r l r l r l r l r l").turningFrom(2));
        Check.same("19 the turn is then that of the name", 4, Charts.of(SIDES + "voyage r d l u r").turning());
        PortolanChart chart = Charts.of(SIDES + "voyage d;turn 3");
        Check.same("19 from the turn as it is now", 2, chart.turning());
        chart.turnPage(1);
        Check.same("19 from the turn as it is now", 0, chart.turning());
        Check.same("20 not from the turn as it is now", 2, chart.turningFrom(3));
    }

    private static void bestTurn() {
        Check.same("21 of several the least one", 0, Charts.of(SIDES + "turn 3").bestTurn());
        Check.same("21 0", 0, Charts.of(SIDES + "voyage r l;turn 3").bestTurn());
        Check.same("21 1", 1, Charts.of(SIDES + "voyage d u;turn 3").bestTurn());
        Check.same("21 2", 2, Charts.of(SIDES + "voyage l r").bestTurn());
        Check.same("21 3", 3, Charts.of(SIDES + "voyage u d").bestTurn());
        PortolanChart chart = Charts.of(SIDES + "voyage u");
        chart.lift(0);
        Check.same("21 none counts any more", 0, chart.bestTurn());
    }

    private static void hardest() {
        Check.same("22 the first place", 0, Charts.of(SIDES + "voyage l").hardest());
        Check.same("22 of several the first one", 0, Charts.of(SIDES + "voyage l r l").hardest());
        Check.same("22 more than the first one", 1, Charts.of(SIDES + "voyage u d").hardest());
        Check.same("22 the last place", 3, Charts.of(SIDES + "voyage r r r d").hardest());
        Check.same("22 no turn is needed", -1, Charts.of(SIDES + "voyage r r r").hardest());
        Check.same("22 none placed", -1, Charts.of(SIDES + "voyage n;turn 2").hardest());
        Check.same("22 an empty voyage", -1, Charts.of(SIDES + "turn 2").hardest());
        Check.same("22 one quarter", 1, Charts.of(SIDES + "voyage n d n").hardest());
        Check.same("22 each from the name ahead", 2, Charts.of(SIDES + "voyage d r l;turn 1").hardest());
        Check.same("22 also over one that is not placed", 2, Charts.of(SIDES + "voyage r n l").hardest());
        PortolanChart chart = Charts.of(SIDES + "voyage r d l;turn 2");
        Check.same("22 from the turn as it is now", 0, chart.hardest());
        chart.turnPage(0);
        Check.same("22 from the turn as it is now", 1, chart.hardest());
    }

    private static void exceptions() {
        PortolanChart chart = Charts.of(ALL + "harbour a 0 0;harbour b 4 4");
        for (int bad : BAD) {
            Check.noIndex("12 no such harbour", () -> chart.why(bad, 0));
            Check.noIndex("12 the harbour is named first", () -> chart.why(bad, bad));
            Check.noArgument("12 direction", () -> chart.why(1, bad));
            Check.noIndex("13 no such harbour", () -> chart.ways(bad));
            Check.noIndex("14 no such harbour", () -> chart.room(bad, 0));
            Check.noIndex("14 the harbour is named first", () -> chart.room(bad, bad));
            Check.noArgument("14 direction", () -> chart.room(1, bad));
            Check.noIndex("16 no such harbour", () -> chart.crossed(bad));
            Check.noArgument("18 turn", () -> chart.upright(bad));
            Check.noArgument("20 turn", () -> chart.turningFrom(bad));
        }
        Check.noIndex("12 behind the last harbour", () -> chart.why(2, 0));
        Check.noIndex("13 behind the last harbour", () -> chart.ways(2));
        Check.noIndex("14 behind the last harbour", () -> chart.room(2, 0));
        Check.noIndex("16 behind the last harbour", () -> chart.crossed(2));
    }
}
