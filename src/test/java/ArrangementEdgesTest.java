/** Section 3 on arrangements, promises 23 to 28 and 36: each sentence that names a boundary. */
public final class ArrangementEdgesTest {
    private static final String ALL = Charts.allLand(5, 5) + ";";
    /** The harbour cells from where a name in each direction leads through the middle. */
    private static final String[] START = {"4 2", "2 0", "0 2", "2 4"};
    private static final String EIGHT = Charts.allLand(12, 12) + ";harbour a 0 0;harbour b 0 11;harbour c 11 0;"
        + "harbour d 11 11;harbour e 5 0;harbour f 0 5;harbour g 11 6;harbour h 6 11;";

    public static void main(String[] args) {
        nothingToPlace();
        twoNames();
        manyNames();
        mostRedNames();
        mostNames();
        leastTurning();
        fromTheTurnAsItIsNow();
        lowestDirection();
        eightNames();
        asNamesArePlacedNow();
        eachAloneOnANewObject();
        ifRed();
        shy();
        arrange();
        exceptions();
        Check.end();
    }

    private static String told(PortolanChart chart) {
        StringBuilder text = new StringBuilder();
        text.append(chart.least()).append(' ').append(chart.placedThen()).append(':');
        for (int harbour = 0; harbour < chart.size(3); harbour++) {
            text.append(' ').append(chart.arranged(harbour));
        }
        return text.toString();
    }

    /** The turning, the names and their directions are due. */
    private static void best(String label, String due, String text) {
        PortolanChart chart = Charts.of(text);
        Check.same("23 24 25 " + label, due, told(chart));
        String before = Charts.state(chart);
        Check.same("36 " + label, chart.placedThen(), chart.arrange());
        Check.same("36 the turning, " + label, chart.least(), chart.turning());
        chart.undo();
        Check.same("50 " + label, before, Charts.state(chart));
    }

    private static void nothingToPlace() {
        best("no harbour", "0 0:", "chart 3 3;turn 2");
        best("no name goes inland", "0 0: -1", "chart 3 3;land 1 1 1;harbour a 1 1;voyage a;turn 2");
        best("no name fits", "0 0: -1 -1", ALL + "harbour abcde 0 0;harbour vwxyz 4 4;voyage abcde vwxyz;turn 2");
        best("one name", "0 1: 0", ALL + "harbour a 4 2");
    }

    private static void twoNames() {
        for (int one = 0; one < 4; one++) {
            for (int two = 0; two < 4; two++) {
                for (int reds = 0; reds < 4 && one != two; reds++) {
                    twoNames(5, 5, one, two, reds);
                    twoNames(5, 7, one, two, reds);
                    twoNames(7, 5, one, two, reds);
                }
            }
        }
    }

    /** Two names through the middle, behind none to three others that cannot be placed. */
    private static void twoNames(int rows, int columns, int one, int two, int reds) {
        String[] corners = {"harbour abcdefgh 0 0;", "harbour bcdefghi 0 " + (columns - 1) + ";",
            "harbour cdefghij " + (rows - 1) + " 0;"};
        String text = Charts.allLand(rows, columns) + ";";
        String none = "";
        for (int ahead = 0; ahead <= 3; ahead++) {
            String names = text + toTheMiddle(rows, columns, one, "ax") + ((reds & 1) != 0 ? " red;" : ";")
                + toTheMiddle(rows, columns, two, "b?") + ((reds & 2) != 0 ? " red" : "");
            String first = "0 1:" + none + " " + one + " -1";
            String second = "0 1:" + none + " -1 " + two;
            best("unlike letters", reds == 2 ? second : first, names.replace('?', 'y'));
            String both = "0 2:" + none + " " + one + " " + two;
            best("like letters", reds == 0 ? both : reds == 2 ? second : first, names.replace('?', 'x'));
            PortolanChart chart = Charts.of(names.replace('?', 'x'));
            Check.same("27 the other one stays as it is", reds < 2 ? 2 : 1, chart.placedIf(ahead, false));
            Check.same("27 if the first one was red", 1, chart.placedIf(ahead, true));
            Check.same("27 the other one stays as it is", (reds & 1) == 0 ? 2 : 1, chart.placedIf(ahead + 1, false));
            Check.same("27 if the second one was red", 1, chart.placedIf(ahead + 1, true));
            text += ahead < 3 ? corners[ahead] : "";
            none += " -1";
        }
    }

    /** A harbour whose name has its last letter in the middle. */
    private static String toTheMiddle(int rows, int columns, int direction, String ends) {
        int row = direction == 0 ? rows - 1 : direction == 2 ? 0 : rows / 2;
        int column = direction == 3 ? columns - 1 : direction == 1 ? 0 : columns / 2;
        int between = (direction % 2 == 0 ? rows : columns) / 2 - 2;
        return "harbour " + ends.charAt(0) + "m".repeat(between) + ends.charAt(1) + " " + row + " " + column;
    }

    private static String four(String letters, int red) {
        StringBuilder text = new StringBuilder(ALL);
        for (int i = 0; i < letters.length(); i++) {
            text.append("harbour ").append((char) ('a' + i)).append(letters.charAt(i)).append(' ').append(START[i])
                .append(i == red ? " red;" : ";");
        }
        return text + "turn 0";
    }

    private static void manyNames() {
        best("four alike", "0 4: 0 1 2 3", four("xxxx", -1));
        best("the red one alone", "0 1: 0 -1 -1 -1", four("xxxx", 0));
        best("the red one alone", "0 1: -1 1 -1 -1", four("xxxx", 1));
        best("the red one alone", "0 1: -1 -1 2 -1", four("xxxx", 2));
        best("the red one alone", "0 1: -1 -1 -1 3", four("xxxx", 3));
        best("two against two", "0 2: 0 -1 2 -1", four("xyxy", -1));
        best("two against two, one of the others red", "0 1: -1 1 -1 -1", four("xyxy", 1));
        best("each against each", "0 1: 0 -1 -1 -1", four("wxyz", -1));
        best("three against one", "0 3: -1 1 2 3", four("yxxx", -1));
        best("three against one", "0 3: 0 1 2 -1", four("xxxy", -1));
        best("three against one, that one red", "0 1: 0 -1 -1 -1", four("yxxx", 0));
    }

    /** The first name stands against the second and the third one; the fourth one is in no one's way. */
    private static String against(String first, String second, String third, String fourth) {
        return ALL + "harbour xyz 2 0" + first + ";harbour aa 0 1" + second + ";harbour bb 0 2" + third
            + ";harbour cc 0 4" + fourth + ";turn 0";
    }

    private static void mostRedNames() {
        String r = " red";
        best("one red against two others", "0 2: 1 -1 -1 2", against(r, "", "", ""));
        best("one red against one red, with more names", "0 3: -1 2 2 2", against(r, r, "", ""));
        best("one red against two red", "0 3: -1 2 2 2", against(r, r, r, ""));
        best("two red against three red", "0 3: -1 2 2 2", against(r, r, r, r));
        best("two red against two red, with more names", "0 3: -1 2 2 2", against(r, r, "", r));
        best("two red against one red", "0 2: 1 -1 -1 2", against(r, "", "", r));
        best("no red against one red", "0 3: -1 2 2 2", against("", "", r, ""));
        best("the red one more lies elsewhere", "0 3: -1 2 2 2", against("", "", "", r));
    }

    private static void mostNames() {
        best("two against three", "0 3: -1 2 2 2", against("", "", "", ""));
        best("two against three, upwards", "0 3: -1 0 0 0",
            ALL + "harbour xyz 2 0;harbour aa 4 1;harbour bb 4 2;harbour cc 4 4");
        best("two against three, to the left", "0 3: -1 3 3 3",
            ALL + "harbour xyz 0 2;harbour aa 1 4;harbour bb 2 4;harbour cc 4 4;turn 2;voyage cc");
        best("behind one that cannot be placed", "0 3: -1 -1 2 2 2",
            against("", "", "", "").replace(ALL, ALL + "harbour abcde 4 4;"));
        best("behind a red one that cannot be placed", "0 3: -1 -1 2 2 2",
            against(" red", " red", " red", "").replace(ALL, ALL + "harbour abcde 4 4 red;"));
        best("the last one gives way", "0 3: 2 2 2 -1",
            ALL + "harbour aa 0 1;harbour bb 0 2;harbour cc 0 4;harbour xyz 2 0");
        best("more names ahead of less turning", "4 2: 1 3", ALL + "harbour ab 2 0;harbour cb 2 4;voyage cb ab");
    }

    private static void leastTurning() {
        String corners = ALL + "harbour a 0 0;harbour b 0 4;harbour c 4 4;harbour d 4 0;";
        best("all one way", "0 4: 1 2 0 0", corners + "voyage a");
        best("two one way", "0 4: 1 2 0 1", corners + "voyage a d");
        best("early or late is as good, so the lowest", "1 2: 1 2", ALL + "harbour a 0 0;harbour b 0 4;voyage a b");
        best("from the turn of the page to the first one", "0 2: 2 2",
            ALL + "harbour a 0 0;harbour b 0 4;voyage a b;turn 1");
        best("least of all", "1 4: 2 2 3 0", corners + "voyage a b c;turn 1");
        best("each as often as it is in it", "2 2: 2 2",
            Charts.allLand(5, 5) + ";harbour a 0 0;harbour b 0 4;voyage a b a b a b a b;turn 3");
        best("names that are not in it turn nothing", "0 4: 1 2 0 0", corners + "turn 3");
        best("rather not the one that stands in it", "1 1: 1 -1",
            ALL + "harbour x 1 0;harbour y 0 1;voyage x y;turn 3");
    }

    private static void fromTheTurnAsItIsNow() {
        PortolanChart chart = Charts.of(ALL + "harbour a 0 0;voyage a");
        String[] due = {"0 1: 1", "0 1: 2", "1 1: 2", "1 1: 1"};
        for (int turn = 3; turn >= 0; turn--) {
            chart.turnPage(turn);
            Check.same("23 25 from the turn as it is now", due[turn], told(chart));
        }
        chart.arrange();
        chart.turnPage(2);
        chart.read();
        Check.same("23 25 a voyage that goes on counts as a whole", "0 1: 1", told(chart));
    }

    private static void lowestDirection() {
        best("that of the harbour 0 first", "0 1: 1 -1", ALL + "harbour x 1 0;harbour y 0 1");
        best("that of the harbour 0 first", "0 1: 2 -1", ALL + "harbour y 0 1;harbour x 1 0");
        best("the lowest of two", "0 4: 0 0 1 2", ALL + "harbour a 4 0;harbour b 4 4;harbour c 0 0;harbour d 0 4");
        best("lower for 0, though higher for 1", "0 2: 1 2", ALL + "harbour ab 0 0;harbour c 0 3");
        best("the least turning goes ahead of it", "0 1: 2", ALL + "harbour a 0 0;voyage a;turn 1");
        best("as good as one another", "0 1: 1", ALL + "harbour a 0 0;turn 1");
    }

    private static void eightNames() {
        best("no voyage", "0 8: 1 2 0 0 1 2 0 3", EIGHT + "turn 1");
        best("the first one turns", "0 8: 2 2 0 0 1 2 0 3", EIGHT + "turn 1;voyage a");
        best("the fourth one turns", "0 8: 1 2 0 3 1 2 0 3", EIGHT + "turn 2;voyage d");
        best("the last one, too", "1 8: 1 2 0 3 1 2 0 3", EIGHT + "turn 3;voyage h d");
        PortolanChart chart = Charts.of(EIGHT + "turn 0;voyage h");
        Check.same("25 the last one", 3, chart.arranged(7));
        Check.same("26 the last one", 2, chart.leastIf(7, true));
        Check.same("27 the last one", 8, chart.placedIf(7, true));
        Check.same("28 all", 255, chart.shy());
        Check.noIndex("25 a ninth one", () -> chart.arranged(8));
        Check.noIndex("26 a ninth one", () -> chart.leastIf(8, true));
        Check.noIndex("27 a ninth one", () -> chart.placedIf(8, false));
    }

    private static void asNamesArePlacedNow() {
        PortolanChart chart = Charts.of(against("", "", "", "") + ";voyage xyz aa");
        String due = told(chart);
        chart.place(0, 1);
        Check.same("23 24 25 it does not matter", due, told(chart));
        Check.same("28 it does not matter", 1, chart.shy());
        chart.place(3, 2);
        Check.same("23 24 25 it does not matter", due, told(chart));
        chart.arrange();
        Check.same("23 24 25 nor behind arrange", due, told(chart));
        Check.same("36 the first one was lifted", -1, chart.harbour(0, 2));
    }

    private static void eachAloneOnANewObject() {
        String text = against(" red", "", "", "") + ";voyage xyz aa cc aa";
        Check.same("23 alone", 1, Charts.of(text).least());
        Check.same("24 alone", 2, Charts.of(text).placedThen());
        Check.same("25 alone", 2, Charts.of(text).arranged(3));
        Check.same("26 alone, if it was not red", 1, Charts.of(text + ";turn 2").leastIf(0, false));
        Check.same("26 alone, as it is", 3, Charts.of(text + ";turn 2").leastIf(0, true));
        Check.same("27 alone, if it was not red", 3, Charts.of(text).placedIf(0, false));
        Check.same("27 alone, as it is", 2, Charts.of(text).placedIf(0, true));
        Check.same("28 alone", 1, Charts.of(text).shy());
        Check.same("36 alone", 2, Charts.of(text).arrange());
    }

    private static void ifRed() {
        PortolanChart chart = Charts.of(against("", "", "", "") + ";voyage xyz");
        chart.place(0, 1);
        String before = Charts.state(chart);
        Check.same("26 27 if it was red", "0 2", chart.leastIf(0, true) + " " + chart.placedIf(0, true));
        Check.same("26 27 as it is", "0 3", chart.leastIf(0, false) + " " + chart.placedIf(0, false));
        Check.same("26 27 another one", "0 3", chart.leastIf(2, true) + " " + chart.placedIf(2, true));
        Check.same("8 it does not become red", 0, chart.harbour(0, 1) + chart.harbour(2, 1));
        Check.same("s5 predictions change nothing", before, Charts.state(chart));
        Check.same("s5 they are no actions", 1, chart.size(11));
        chart.setRed(0, true);
        Check.same("27 if it was not red", 3, chart.placedIf(0, false));
        Check.same("27 as it is", 2, chart.placedIf(0, true));
    }

    private static void shy() {
        Check.same("28 none", 0, new PortolanChart().shy());
        Check.same("28 one alone, without whom there are no others", 1, Charts.of(ALL + "harbour a 0 0").shy());
        Check.same("28 one alone that cannot be placed", 1, Charts.of(ALL + "harbour abcde 0 0").shy());
        Check.same("28 the first one", 1, Charts.of(against("", "", "", "")).shy());
        Check.same("28 the last one", 8,
            Charts.of(ALL + "harbour aa 0 1;harbour bb 0 2;harbour cc 0 4;harbour xyz 2 0").shy());
        Check.same("28 either of two", 3, Charts.of(ALL + "harbour ax 2 0;harbour by 0 2").shy());
        Check.same("28 none of three", 0, Charts.of(four("xyz", -1)).shy());
        Check.same("28 all, as all can be placed", 15, Charts.of(four("xxxx", -1)).shy());
        Check.same("28 a red one that all others cross", 1, Charts.of(four("xxxx", 0)).shy());
        Check.same("28 as if its cell as a harbour was not there", 2,
            Charts.of("chart 3 6;land 1 0 4;harbour abcd 1 0;harbour qrstu 1 4").shy());
        Check.same("28 its cell stays land", 1,
            Charts.of("chart 3 8;land 1 0 5;harbour abc 1 1;harbour q 1 0;harbour r 1 5").shy());
        Check.same("28 two of whom each cannot be placed", 0,
            Charts.of(ALL + "harbour abcde 0 0;harbour vwxyz 4 4;harbour a 2 0").shy());
    }

    private static void arrange() {
        PortolanChart chart = Charts.of(against("", "", "", ""));
        chart.place(0, 1);
        Check.same("36 how many are placed then", 3, chart.arrange());
        Check.same("36 the first one is not", "-1 2 2 2", chart.harbour(0, 2) + " " + chart.harbour(1, 2) + " "
            + chart.harbour(2, 2) + " " + chart.harbour(3, 2));
        Check.same("36 their letters", ".@@.@/.ab.c/@ab.c/...../.....", Charts.picture(chart));
        Check.same("36 once more, which changes nothing", 3, chart.arrange());
        Check.same("s5 it counts all the same", 3, chart.size(11));
        Check.same("36 none", 0, new PortolanChart().arrange());
        PortolanChart empty = new PortolanChart();
        empty.arrange();
        Check.same("s5 it counts without a harbour", 1, empty.size(11));
    }

    private static void exceptions() {
        PortolanChart chart = Charts.of(ALL + "harbour a 0 0");
        for (int bad : new int[] {Integer.MIN_VALUE, -1, 1, 7, 8, 31, 32, Integer.MAX_VALUE}) {
            Check.noIndex("25 no such harbour", () -> chart.arranged(bad));
            Check.noIndex("26 no such harbour", () -> chart.leastIf(bad, true));
            Check.noIndex("26 no such harbour", () -> chart.leastIf(bad, false));
            Check.noIndex("27 no such harbour", () -> chart.placedIf(bad, true));
            Check.noIndex("27 no such harbour", () -> chart.placedIf(bad, false));
        }
    }
}
