/**
 * A portolan: a chart of land and sea, with harbours at the coast whose names stand on the land, rivers that wash
 * names away, voyages from harbour to harbour, and the arrangement of names with the least turning of the page.
 */
public final class PortolanChart {
    public static final int NONE = -1;
    public static final int FULL = -2;
    public static final int WRONG = -3;

    private static final int DIRECTIONS = 4;
    private static final int LEAST_SIDE = 3;
    private static final int MOST_SIDE = 12;
    private static final int MOST_CELLS = 144;
    private static final int MOST_HARBOURS = 8;
    private static final int MOST_LETTERS = 8;
    private static final int MOST_RIVERS = 8;
    private static final int MOST_STOPS = 16;
    private static final int MOST_INPUT = 500;
    private static final int MOST_ACTIONS = 8;
    private static final int SNAPSHOTS = 2;
    private static final int ERROR_BASE = -100;

    private static final int SPACE = 32;
    private static final int SEMICOLON = 59;
    private static final int TILDE = 126;
    private static final int AT_SIGN = 64;
    private static final int EQUALS_SIGN = 61;
    private static final int FULL_STOP = 46;
    private static final int TO_CAPITAL = 32;

    private static final int[] ROW_STEP = {-1, 0, 1, 0};
    private static final int[] COLUMN_STEP = {0, 1, 0, -1};

    private final Sheet sheet = new Sheet();
    private final History history = new History();
    private final Streams streams = new Streams();
    private final Arranger arranger = new Arranger();
    private final Reader reader = new Reader();
    private int errorKind;
    private int errorStatement;
    private final int[] output = new int[MOST_SIDE];
    private int outputLength;
    private final Sheet[] snapshots = new Sheet[SNAPSHOTS];

    public PortolanChart() {
        errorStatement = NONE;
        sheet.beginSea(LEAST_SIDE, LEAST_SIDE);
    }

    // ---- the description ----

    public int append(long bytes) {
        int more = 0;
        for (int shift = 56; shift >= 0; shift -= 8) {
            if (byteOf(bytes, shift) != 0) {
                more++;
            }
        }
        if (reader.length + more > MOST_INPUT) {
            return FULL;
        }
        for (int shift = 56; shift >= 0; shift -= 8) {
            if (byteOf(bytes, shift) != 0) {
                reader.addByte(byteOf(bytes, shift));
            }
        }
        return reader.length;
    }

    public int load() {
        boolean good = reader.readText();
        reader.length = 0;
        errorKind = good ? 0 : reader.error;
        errorStatement = good ? NONE : reader.statement;
        if (!good) {
            return ERROR_BASE - reader.errorAt;
        }
        sheet.copyFrom(reader.draft);
        history.forget();
        return sheet.harbours.count;
    }

    public int loadError() {
        return errorKind;
    }

    public int loadStatement() {
        return errorStatement;
    }

    // ---- what stands on the chart ----

    public int size(int what) throws IllegalArgumentException {
        switch (what) {
            case 0: return sheet.ground.rows;
            case 1: return sheet.ground.columns;
            case 2: return sheet.ground.landCells();
            case 3: return sheet.harbours.count;
            case 4: return sheet.ground.rivers;
            case 5: return Integer.bitCount(sheet.harbours.placedNames());
            case 6: return Integer.bitCount(sheet.harbours.placedNames() & sheet.harbours.reds);
            case 7: return sheet.journey.count;
            case 8: return sheet.journey.turn;
            case 9: return sheet.journey.next;
            case 10: return sheet.journey.quarters;
            case 11: return history.count;
            default: throw new IllegalArgumentException("no such number");
        }
    }

    public int cell(int cell, int what) throws IndexOutOfBoundsException, IllegalArgumentException {
        needCell(cell);
        switch (what) {
            case 0: return sheet.ground.isRiver(cell) ? 2 : sheet.ground.isLand(cell) ? 1 : 0;
            case 1: return sheet.harbours.inCell(cell);
            case 2: return sheet.ground.riverIn(cell);
            case 3: return sheet.letterIn(cell);
            case 4: return sheet.namesIn(cell);
            case 5: return sheet.ground.depthOf(cell);
            default: throw new IllegalArgumentException("no such number of a cell");
        }
    }

    public int harbour(int harbour, int what) throws IndexOutOfBoundsException, IllegalArgumentException {
        needHarbour(harbour);
        switch (what) {
            case 0: return sheet.harbours.homeOf(harbour);
            case 1: return sheet.harbours.isRed(harbour) ? 1 : 0;
            case 2: return sheet.harbours.directionOf(harbour);
            case 3: return sheet.harbours.lengthOf(harbour);
            case 4: return sheet.journey.timesOf(harbour);
            default: throw new IllegalArgumentException("no such number of a harbour");
        }
    }

    public int letter(int harbour, int index) throws IndexOutOfBoundsException {
        needHarbour(harbour);
        return sheet.harbours.letterOf(harbour, index);
    }

    public int river(int river, int index) throws IndexOutOfBoundsException {
        needRiver(river);
        return sheet.ground.riverCell(river, index);
    }

    public int voyage(int index) {
        return sheet.journey.stopAt(index);
    }

    // ---- names ----

    public int why(int harbour, int direction) throws IndexOutOfBoundsException, IllegalArgumentException {
        needHarbour(harbour);
        needDirection(direction);
        return sheet.reasonAgainst(harbour, direction);
    }

    public int ways(int harbour) throws IndexOutOfBoundsException {
        needHarbour(harbour);
        int sum = 0;
        for (int direction = 0; direction < DIRECTIONS; direction++) {
            if (sheet.reasonAgainst(harbour, direction) == 0) {
                sum |= 1 << direction;
            }
        }
        return sum;
    }

    public int room(int harbour, int direction) throws IndexOutOfBoundsException, IllegalArgumentException {
        needHarbour(harbour);
        needDirection(direction);
        int home = sheet.harbours.homeOf(harbour);
        for (int steps = 1; steps < MOST_SIDE; steps++) {
            if (!sheet.isOpen(sheet.ground.ahead(home, direction, steps))) {
                return steps - 1;
            }
        }
        return MOST_SIDE - 1;
    }

    public int crossings() {
        int ends = 0;
        for (int harbour = 0; harbour < sheet.harbours.count; harbour++) {
            ends += Integer.bitCount(sheet.crossedBy(harbour));
        }
        // each pair was met from both of its names
        return ends / 2;
    }

    public int crossed(int harbour) throws IndexOutOfBoundsException {
        needHarbour(harbour);
        return sheet.crossedBy(harbour);
    }

    public int free() {
        int cells = sheet.ground.cells();
        int sum = 0;
        for (int cell = 0; cell < cells; cell++) {
            if (sheet.isOpen(cell) && sheet.namesIn(cell) == 0) {
                sum++;
            }
        }
        return sum;
    }

    // ---- turning ----

    public int upright(int turn) throws IllegalArgumentException {
        needTurn(turn);
        int sum = 0;
        for (int harbour = 0; harbour < sheet.harbours.count; harbour++) {
            int direction = sheet.harbours.directionOf(harbour);
            if (direction != NONE && uprightTurn(direction) == turn) {
                sum |= 1 << harbour;
            }
        }
        return sum;
    }

    public int turning() {
        return sheet.turningNow(sheet.journey.turn);
    }

    public int turningFrom(int turn) throws IllegalArgumentException {
        needTurn(turn);
        return sheet.turningNow(turn);
    }

    public int bestTurn() {
        int best = 0;
        int least = sheet.turningNow(0);
        for (int turn = 1; turn < DIRECTIONS; turn++) {
            int sum = sheet.turningNow(turn);
            if (sum < least) {
                best = turn;
                least = sum;
            }
        }
        return best;
    }

    public int hardest() {
        int hardest = NONE;
        int most = 0;
        int turn = sheet.journey.turn;
        for (int index = 0; index < sheet.journey.count; index++) {
            int direction = sheet.harbours.directionOf(sheet.journey.stopAt(index));
            if (direction != NONE) {
                int quarters = quartersBetween(turn, uprightTurn(direction));
                turn = uprightTurn(direction);
                if (quarters > most) {
                    hardest = index;
                    most = quarters;
                }
            }
        }
        return hardest;
    }

    // ---- the best arrangement ----

    public int least() {
        arranger.findBest(sheet, NONE, sheet.harbours.reds);
        return arranger.bestTurning;
    }

    public int placedThen() {
        arranger.findBest(sheet, NONE, sheet.harbours.reds);
        return arranger.bestCount;
    }

    public int arranged(int harbour) throws IndexOutOfBoundsException {
        needHarbour(harbour);
        arranger.findBest(sheet, NONE, sheet.harbours.reds);
        return arranger.bestDirection(harbour);
    }

    public int leastIf(int harbour, boolean red) throws IndexOutOfBoundsException {
        needHarbour(harbour);
        arranger.findBest(sheet, NONE, sheet.harbours.redsIf(harbour, red));
        return arranger.bestTurning;
    }

    public int placedIf(int harbour, boolean red) throws IndexOutOfBoundsException {
        needHarbour(harbour);
        arranger.findBest(sheet, NONE, sheet.harbours.redsIf(harbour, red));
        return arranger.bestCount;
    }

    public int shy() {
        int others = sheet.harbours.count - 1;
        int sum = 0;
        for (int harbour = 0; harbour < sheet.harbours.count; harbour++) {
            arranger.findBest(sheet, harbour, sheet.harbours.reds);
            if (arranger.bestCount == others) {
                sum |= 1 << harbour;
            }
        }
        return sum;
    }

    // ---- what would be ----

    public int wayLength(int cell) throws IndexOutOfBoundsException {
        needCell(cell);
        int length = wayFrom(cell);
        return length == 0 ? WRONG : length;
    }

    public int wayCell(int cell, int index) throws IndexOutOfBoundsException {
        needCell(cell);
        wayFrom(cell);
        return streams.wayAt(index);
    }

    public int washes(int cell) throws IndexOutOfBoundsException {
        needCell(cell);
        wayFrom(cell);
        return streams.namesOnWay(sheet);
    }

    public int mildest() {
        streams.survey(sheet);
        int cells = sheet.ground.cells();
        int mildest = NONE;
        int fewest = 0;
        int longest = 0;
        for (int cell = 0; cell < cells; cell++) {
            int length = streams.trace(sheet.ground, cell);
            if (length == 0) {
                continue;
            }
            int washed = Integer.bitCount(streams.namesOnWay(sheet));
            if (mildest == NONE || washed < fewest || washed == fewest && length > longest) {
                mildest = cell;
                fewest = washed;
                longest = length;
            }
        }
        return mildest;
    }

    public int drowns(int cell) throws IndexOutOfBoundsException {
        needCell(cell);
        return sheet.namesIn(cell);
    }

    // ---- actions ----

    public int place(int harbour, int direction) throws IndexOutOfBoundsException, IllegalArgumentException {
        needHarbour(harbour);
        needDirection(direction);
        if (sheet.reasonAgainst(harbour, direction) != 0) {
            return WRONG;
        }
        history.keep(sheet);
        int before = sheet.harbours.directionOf(harbour);
        sheet.putName(harbour, direction);
        return before;
    }

    public int lift(int harbour) throws IndexOutOfBoundsException {
        needHarbour(harbour);
        int before = sheet.harbours.directionOf(harbour);
        if (before == NONE) {
            return WRONG;
        }
        history.keep(sheet);
        sheet.takeName(harbour);
        return before;
    }

    public int arrange() {
        arranger.findBest(sheet, NONE, sheet.harbours.reds);
        history.keep(sheet);
        sheet.takeNames(sheet.harbours.placedNames());
        for (int harbour = 0; harbour < sheet.harbours.count; harbour++) {
            int direction = arranger.bestDirection(harbour);
            if (direction != NONE) {
                sheet.putName(harbour, direction);
            }
        }
        return arranger.bestCount;
    }

    public boolean setRed(int harbour, boolean red) throws IndexOutOfBoundsException {
        needHarbour(harbour);
        history.keep(sheet);
        boolean before = sheet.harbours.isRed(harbour);
        if (red) {
            sheet.takeNames(sheet.crossedBy(harbour));
        }
        sheet.harbours.reds = sheet.harbours.redsIf(harbour, red);
        return before;
    }

    public int addRiver(int cell) throws IndexOutOfBoundsException {
        needCell(cell);
        if (sheet.ground.rivers >= MOST_RIVERS) {
            return FULL;
        }
        if (wayFrom(cell) == 0) {
            return WRONG;
        }
        history.keep(sheet);
        sheet.takeNames(streams.namesOnWay(sheet));
        sheet.ground.layRiver(streams.way, streams.length);
        return sheet.ground.rivers - 1;
    }

    public int dropRiver(int river) throws IndexOutOfBoundsException {
        needRiver(river);
        history.keep(sheet);
        return sheet.ground.dryRiver(river);
    }

    public int erode(int cell) throws IndexOutOfBoundsException {
        needCell(cell);
        if (!sheet.isOpen(cell)) {
            return WRONG;
        }
        history.keep(sheet);
        int lifted = sheet.namesIn(cell);
        sheet.takeNames(lifted);
        sheet.ground.setLand(cell, false);
        return Integer.bitCount(lifted);
    }

    public int raise(int cell) throws IndexOutOfBoundsException {
        needCell(cell);
        if (sheet.ground.isLand(cell) || sheet.shutsHarbour(cell)) {
            return WRONG;
        }
        history.keep(sheet);
        int lifted = sheet.namesWithBackTo(cell);
        sheet.takeNames(lifted);
        sheet.ground.setLand(cell, true);
        return Integer.bitCount(lifted);
    }

    public int sail(int harbour) throws IndexOutOfBoundsException {
        needHarbour(harbour);
        if (sheet.journey.count >= MOST_STOPS) {
            return FULL;
        }
        history.keep(sheet);
        sheet.journey.addStop(harbour);
        return sheet.journey.count;
    }

    public int cut(int index) throws IndexOutOfBoundsException {
        if (index < 0 || index >= sheet.journey.count) {
            throw new IndexOutOfBoundsException("no such place in the voyage");
        }
        history.keep(sheet);
        int harbour = sheet.journey.stopAt(index);
        sheet.journey.dropStop(index);
        return harbour;
    }

    public int turnPage(int turn) throws IllegalArgumentException {
        needTurn(turn);
        history.keep(sheet);
        return sheet.journey.turnTo(turn);
    }

    public int read() {
        if (sheet.journey.count == 0) {
            return WRONG;
        }
        history.keep(sheet);
        int harbour = sheet.journey.stopAt(sheet.journey.next);
        int direction = sheet.harbours.directionOf(harbour);
        if (direction != NONE) {
            sheet.journey.turnTo(uprightTurn(direction));
        }
        sheet.journey.goOn();
        return harbour;
    }

    // ---- measures, output and what was ----

    public double meanTurn() {
        int names = 0;
        for (int index = 0; index < sheet.journey.count; index++) {
            if (sheet.harbours.directionOf(sheet.journey.stopAt(index)) != NONE) {
                names++;
            }
        }
        return names == 0 ? 0.0 : (double) turning() / (double) names;
    }

    public float cover() {
        int land = sheet.ground.landCells();
        int lettered = 0;
        for (int cell = 0; cell < sheet.ground.cells(); cell++) {
            if (sheet.namesIn(cell) != 0) {
                lettered++;
            }
        }
        return land == 0 ? 0.0f : (float) lettered / (float) land;
    }

    public int writeRow(int row) throws IndexOutOfBoundsException {
        if (row < 0 || row >= sheet.ground.rows) {
            throw new IndexOutOfBoundsException("no such row");
        }
        int columns = sheet.ground.columns;
        for (int column = 0; column < columns && column < MOST_SIDE; column++) {
            output[column] = signOf(row * columns + column);
        }
        outputLength = columns;
        return outputLength;
    }

    public int outputByte(int index) {
        return index >= 0 && index < outputLength && index < MOST_SIDE ? output[index] : NONE;
    }

    public int undo() {
        return history.giveBack(sheet) ? history.count : NONE;
    }

    public int saveSnapshot(int slot) throws IllegalArgumentException {
        needSlot(slot);
        Sheet snapshot = snapshots[slot];
        if (snapshot == null) {
            snapshot = new Sheet();
            snapshots[slot] = snapshot;
        }
        snapshot.copyFrom(sheet);
        return sheet.harbours.count;
    }

    public int restoreSnapshot(int slot) throws IllegalArgumentException {
        needSlot(slot);
        Sheet snapshot = snapshots[slot];
        if (snapshot == null) {
            return NONE;
        }
        sheet.copyFrom(snapshot);
        history.forget();
        return sheet.harbours.count;
    }

    // ---- what the face is made of ----

    private void needCell(int cell) {
        if (cell < 0 || cell >= sheet.ground.cells()) {
            throw new IndexOutOfBoundsException("no such cell");
        }
    }

    private void needHarbour(int harbour) {
        if (harbour < 0 || harbour >= sheet.harbours.count) {
            throw new IndexOutOfBoundsException("no such harbour");
        }
    }

    private void needRiver(int river) {
        if (river < 0 || river >= sheet.ground.rivers) {
            throw new IndexOutOfBoundsException("no such river");
        }
    }

    private static void needDirection(int direction) {
        if (direction < 0 || direction >= DIRECTIONS) {
            throw new IllegalArgumentException("no such direction");
        }
    }

    private static void needTurn(int turn) {
        if (turn < 0 || turn >= DIRECTIONS) {
            throw new IllegalArgumentException("no such turn");
        }
    }

    private static void needSlot(int slot) {
        if (slot < 0 || slot >= SNAPSHOTS) {
            throw new IllegalArgumentException("no such slot");
        }
    }

    private int wayFrom(int cell) {
        streams.survey(sheet);
        return streams.trace(sheet.ground, cell);
    }

    private int signOf(int cell) {
        if (!sheet.ground.isLand(cell)) {
            return TILDE;
        }
        if (sheet.harbours.inCell(cell) != NONE) {
            return AT_SIGN;
        }
        int names = sheet.namesIn(cell);
        if (names != 0) {
            boolean red = (names & sheet.harbours.reds) != 0;
            return red ? sheet.letterIn(cell) - TO_CAPITAL : sheet.letterIn(cell);
        }
        return sheet.ground.isRiver(cell) ? EQUALS_SIGN : FULL_STOP;
    }

    private static int byteOf(long bytes, int shift) {
        return (int) (bytes >>> shift & 255L);
    }

    private static int uprightTurn(int direction) {
        return (direction + 3) % DIRECTIONS;
    }

    private static int quartersBetween(int from, int to) {
        int gap = Math.abs(from - to);
        return Math.min(gap, DIRECTIONS - gap);
    }

    /** Land, sea and rivers. */
    private static final class Ground {
        private int rows;
        private int columns;
        private int rivers;
        private final boolean[] land = new boolean[MOST_CELLS];
        private final int[] riverOf = new int[MOST_CELLS];
        private final int[] riverPlace = new int[MOST_CELLS];

        void beginSea(int rowCount, int columnCount) {
            rows = rowCount;
            columns = columnCount;
            rivers = 0;
            for (int cell = 0; cell < MOST_CELLS; cell++) {
                land[cell] = false;
                riverOf[cell] = NONE;
                riverPlace[cell] = NONE;
            }
        }

        void copyFrom(Ground other) {
            rows = other.rows;
            columns = other.columns;
            rivers = other.rivers;
            for (int cell = 0; cell < MOST_CELLS; cell++) {
                land[cell] = other.land[cell];
                riverOf[cell] = other.riverOf[cell];
                riverPlace[cell] = other.riverPlace[cell];
            }
        }

        int cells() {
            return rows * columns;
        }

        /** The cell so many steps away, NONE beyond the rim. */
        int ahead(int cell, int direction, int steps) {
            if (cell < 0 || cell >= rows * columns || direction < 0 || direction >= DIRECTIONS || columns <= 0) {
                return NONE;
            }
            int row = cell / columns + ROW_STEP[direction] * steps;
            int column = cell % columns + COLUMN_STEP[direction] * steps;
            boolean inside = row >= 0 && row < rows && column >= 0 && column < columns;
            return inside ? row * columns + column : NONE;
        }

        /** How many steps in a direction lead from a cell to another one, NONE if that does not lie there. */
        int stepsTo(int from, int direction, int to) {
            if (direction < 0 || direction >= DIRECTIONS || columns <= 0) {
                return NONE;
            }
            int down = to / columns - from / columns;
            int right = to % columns - from % columns;
            int aside = down * COLUMN_STEP[direction] + right * ROW_STEP[direction];
            int steps = down * ROW_STEP[direction] + right * COLUMN_STEP[direction];
            return aside == 0 && steps > 0 ? steps : NONE;
        }

        boolean isLand(int cell) {
            return cell >= 0 && cell < MOST_CELLS && land[cell];
        }

        int riverIn(int cell) {
            return cell >= 0 && cell < MOST_CELLS ? riverOf[cell] : NONE;
        }

        boolean isRiver(int cell) {
            return cell >= 0 && cell < MOST_CELLS && riverOf[cell] != NONE;
        }

        void setLand(int cell, boolean isLand) {
            if (cell >= 0 && cell < MOST_CELLS) {
                land[cell] = isLand;
            }
        }

        int landCells() {
            int sum = 0;
            for (int cell = 0; cell < MOST_CELLS; cell++) {
                if (land[cell]) {
                    sum++;
                }
            }
            return sum;
        }

        /** Whether sea is beside a cell, also if the cell raised (NONE for none) was land. */
        boolean hasSeaBeside(int cell, int raised) {
            for (int direction = 0; direction < DIRECTIONS; direction++) {
                int beside = ahead(cell, direction, 1);
                if (beside == NONE || beside != raised && !isLand(beside)) {
                    return true;
                }
            }
            return false;
        }

        boolean endsRiver(int cell) {
            for (int direction = 0; direction < DIRECTIONS; direction++) {
                int beside = ahead(cell, direction, 1);
                if (!isLand(beside) || isRiver(beside)) {
                    return true;
                }
            }
            return false;
        }

        /** As no cell bars the way to the sea, the depth is a distance along rows and columns. */
        int depthOf(int cell) {
            if (!isLand(cell) || columns <= 0) {
                return 0;
            }
            int row = cell / columns;
            int column = cell % columns;
            int toRow = Math.min(row + 1, rows - row);
            int toColumn = Math.min(column + 1, columns - column);
            int depth = Math.min(toRow, toColumn);
            for (int other = 0; other < cells(); other++) {
                if (!isLand(other)) {
                    int steps = Math.abs(other / columns - row) + Math.abs(other % columns - column);
                    depth = Math.min(depth, steps);
                }
            }
            return depth;
        }

        int riverCell(int river, int index) {
            for (int cell = 0; cell < MOST_CELLS; cell++) {
                if (index >= 0 && riverOf[cell] == river && riverPlace[cell] == index) {
                    return cell;
                }
            }
            return NONE;
        }

        void layRiver(int[] way, int length) {
            for (int index = 0; index < length && index < way.length; index++) {
                int cell = way[index];
                if (cell >= 0 && cell < MOST_CELLS) {
                    riverOf[cell] = rivers;
                    riverPlace[cell] = index;
                }
            }
            rivers++;
        }

        /** Takes a river away and tells how many cells it had. */
        int dryRiver(int river) {
            int length = 0;
            for (int cell = 0; cell < MOST_CELLS; cell++) {
                if (riverOf[cell] == river) {
                    riverOf[cell] = NONE;
                    riverPlace[cell] = NONE;
                    length++;
                } else if (riverOf[cell] > river) {
                    riverOf[cell]--;
                }
            }
            rivers--;
            return length;
        }
    }

    /** The harbours with their names, and how these are placed. */
    private static final class Harbours {
        private int count;
        private int reds;
        private final int[] home = new int[MOST_HARBOURS];
        private final int[] direction = new int[MOST_HARBOURS];
        private final int[] length = new int[MOST_HARBOURS];
        private final int[] letters = new int[MOST_HARBOURS * MOST_LETTERS];

        void beginEmpty() {
            count = 0;
            reds = 0;
        }

        void copyFrom(Harbours other) {
            count = other.count;
            reds = other.reds;
            for (int harbour = 0; harbour < MOST_HARBOURS; harbour++) {
                home[harbour] = other.home[harbour];
                direction[harbour] = other.direction[harbour];
                length[harbour] = other.length[harbour];
            }
            for (int index = 0; index < letters.length; index++) {
                letters[index] = other.letters[index];
            }
        }

        /** Adds a harbour whose name stands in a text. */
        void addHarbour(int cell, int[] text, int start, int letterCount) {
            if (count >= MOST_HARBOURS || start < 0) {
                return;
            }
            home[count] = cell;
            direction[count] = NONE;
            length[count] = Math.min(letterCount, MOST_LETTERS);
            for (int index = 0; index < length[count] && start + index < text.length; index++) {
                letters[count * MOST_LETTERS + index] = text[start + index];
            }
            count++;
        }

        int homeOf(int harbour) {
            return harbour >= 0 && harbour < count && harbour < MOST_HARBOURS ? home[harbour] : NONE;
        }

        int directionOf(int harbour) {
            return harbour >= 0 && harbour < count && harbour < MOST_HARBOURS ? direction[harbour] : NONE;
        }

        void setDirection(int harbour, int newDirection) {
            if (harbour >= 0 && harbour < count && harbour < MOST_HARBOURS) {
                direction[harbour] = newDirection;
            }
        }

        int lengthOf(int harbour) {
            return harbour >= 0 && harbour < count && harbour < MOST_HARBOURS ? length[harbour] : 0;
        }

        int letterOf(int harbour, int index) {
            boolean there = index >= 0 && index < lengthOf(harbour) && index < MOST_LETTERS;
            return there ? letters[harbour * MOST_LETTERS + index] : NONE;
        }

        boolean isRed(int harbour) {
            return (reds >> harbour & 1) == 1;
        }

        int redsIf(int harbour, boolean red) {
            int bit = 1 << harbour;
            return red ? reds | bit : reds & ~bit;
        }

        int inCell(int cell) {
            for (int harbour = 0; harbour < count && harbour < MOST_HARBOURS; harbour++) {
                if (home[harbour] == cell) {
                    return harbour;
                }
            }
            return NONE;
        }

        int placedNames() {
            int names = 0;
            for (int harbour = 0; harbour < count; harbour++) {
                if (directionOf(harbour) != NONE) {
                    names |= 1 << harbour;
                }
            }
            return names;
        }
    }

    /** The voyage and the page. */
    private static final class Journey {
        private int count;
        private int next;
        private int turn;
        private int quarters;
        private final int[] stops = new int[MOST_STOPS];

        void beginEmpty() {
            count = 0;
            next = 0;
            turn = 0;
            quarters = 0;
        }

        void copyFrom(Journey other) {
            count = other.count;
            next = other.next;
            turn = other.turn;
            quarters = other.quarters;
            for (int index = 0; index < MOST_STOPS; index++) {
                stops[index] = other.stops[index];
            }
        }

        int stopAt(int index) {
            return index >= 0 && index < count && index < MOST_STOPS ? stops[index] : NONE;
        }

        int timesOf(int harbour) {
            int times = 0;
            for (int index = 0; index < count; index++) {
                if (stopAt(index) == harbour) {
                    times++;
                }
            }
            return times;
        }

        void addStop(int harbour) {
            if (count < MOST_STOPS) {
                stops[count] = harbour;
                count++;
            }
        }

        void dropStop(int index) {
            if (index < 0 || index >= count) {
                return;
            }
            for (int later = index + 1; later < count && later < MOST_STOPS; later++) {
                stops[later - 1] = stops[later];
            }
            count--;
            if (next > index) {
                next--;
            }
            if (next >= count) {
                next = 0;
            }
        }

        void goOn() {
            next = next + 1 < count ? next + 1 : 0;
        }

        int turnTo(int newTurn) {
            int made = quartersBetween(turn, newTurn);
            turn = newTurn;
            quarters += made;
            return made;
        }

        /** The turning of the whole voyage from a turn, if names were placed in these directions. */
        int turningBy(int[] directions, int from) {
            int sum = 0;
            int now = from;
            for (int index = 0; index < count; index++) {
                int harbour = stopAt(index);
                if (harbour >= 0 && harbour < directions.length && directions[harbour] != NONE) {
                    int then = uprightTurn(directions[harbour]);
                    sum += quartersBetween(now, then);
                    now = then;
                }
            }
            return sum;
        }
    }

    /** All that an action can change, and that a snapshot holds. */
    private static final class Sheet {
        private final Ground ground = new Ground();
        private final Harbours harbours = new Harbours();
        private final Journey journey = new Journey();
        private final int[] namesOn = new int[MOST_CELLS];
        private final int[] letterOn = new int[MOST_CELLS];

        void beginSea(int rows, int columns) {
            ground.beginSea(rows, columns);
            harbours.beginEmpty();
            journey.beginEmpty();
            for (int cell = 0; cell < MOST_CELLS; cell++) {
                namesOn[cell] = 0;
                letterOn[cell] = NONE;
            }
        }

        void copyFrom(Sheet other) {
            ground.copyFrom(other.ground);
            harbours.copyFrom(other.harbours);
            journey.copyFrom(other.journey);
            for (int cell = 0; cell < MOST_CELLS; cell++) {
                namesOn[cell] = other.namesOn[cell];
                letterOn[cell] = other.letterOn[cell];
            }
        }

        int namesIn(int cell) {
            return cell >= 0 && cell < MOST_CELLS ? namesOn[cell] : 0;
        }

        int letterIn(int cell) {
            return namesIn(cell) != 0 ? letterOn[cell] : NONE;
        }

        /** Whether a cell is land without a river and a harbour. */
        boolean isOpen(int cell) {
            return ground.isLand(cell) && !ground.isRiver(cell) && harbours.inCell(cell) == NONE;
        }

        int reasonAgainst(int harbour, int direction) {
            int reason = groundReason(harbour, direction, NONE);
            if (reason != 0) {
                return reason;
            }
            return meetsOthers(harbour, direction) ? 6 : 0;
        }

        /** The lowest of the reasons 1 to 5, as if the harbour absent (NONE for none) was not there. */
        int groundReason(int harbour, int direction, int absent) {
            int home = harbours.homeOf(harbour);
            if (ground.isLand(ground.ahead(home, (direction + 2) % DIRECTIONS, 1))) {
                return 1;
            }
            int lowest = 0;
            for (int index = 0; index < harbours.lengthOf(harbour); index++) {
                int reason = cellReason(ground.ahead(home, direction, index + 1), absent);
                if (reason != 0 && (lowest == 0 || reason < lowest)) {
                    lowest = reason;
                }
            }
            return lowest;
        }

        private int cellReason(int cell, int absent) {
            if (cell == NONE) {
                return 2;
            }
            if (!ground.isLand(cell)) {
                return 3;
            }
            if (ground.isRiver(cell)) {
                return 4;
            }
            int there = harbours.inCell(cell);
            return there != NONE && there != absent ? 5 : 0;
        }

        /** Letters of placed names that share a cell are alike, so one of them speaks for all. */
        private boolean meetsOthers(int harbour, int direction) {
            int own = 1 << harbour;
            int home = harbours.homeOf(harbour);
            for (int index = 0; index < harbours.lengthOf(harbour); index++) {
                int cell = ground.ahead(home, direction, index + 1);
                int others = namesIn(cell) & ~own;
                boolean red = ((others | own) & harbours.reds) != 0;
                if (others != 0 && (red || letterIn(cell) != harbours.letterOf(harbour, index))) {
                    return true;
                }
            }
            return false;
        }

        void putName(int harbour, int direction) {
            takeName(harbour);
            int home = harbours.homeOf(harbour);
            for (int index = 0; index < harbours.lengthOf(harbour); index++) {
                int cell = ground.ahead(home, direction, index + 1);
                if (cell >= 0 && cell < MOST_CELLS) {
                    namesOn[cell] |= 1 << harbour;
                    letterOn[cell] = harbours.letterOf(harbour, index);
                }
            }
            harbours.setDirection(harbour, direction);
        }

        void takeName(int harbour) {
            int home = harbours.homeOf(harbour);
            int direction = harbours.directionOf(harbour);
            for (int index = 0; index < harbours.lengthOf(harbour) && direction != NONE; index++) {
                int cell = ground.ahead(home, direction, index + 1);
                if (cell >= 0 && cell < MOST_CELLS) {
                    namesOn[cell] &= ~(1 << harbour);
                }
            }
            harbours.setDirection(harbour, NONE);
        }

        void takeNames(int names) {
            for (int harbour = 0; harbour < harbours.count; harbour++) {
                if ((names >> harbour & 1) == 1) {
                    takeName(harbour);
                }
            }
        }

        int crossedBy(int harbour) {
            int home = harbours.homeOf(harbour);
            int direction = harbours.directionOf(harbour);
            int names = 0;
            for (int index = 0; index < harbours.lengthOf(harbour) && direction != NONE; index++) {
                names |= namesIn(ground.ahead(home, direction, index + 1));
            }
            return names & ~(1 << harbour);
        }

        int turningNow(int from) {
            return journey.turningBy(harbours.direction, from);
        }

        /** Whether a harbour would lose the coast if a cell of sea became land. */
        boolean shutsHarbour(int cell) {
            for (int harbour = 0; harbour < harbours.count; harbour++) {
                if (!ground.hasSeaBeside(harbours.homeOf(harbour), cell)) {
                    return true;
                }
            }
            return false;
        }

        /** The placed names that lead away from a cell behind their harbour. */
        int namesWithBackTo(int cell) {
            int names = 0;
            for (int harbour = 0; harbour < harbours.count; harbour++) {
                int direction = harbours.directionOf(harbour);
                int back = (direction + 2) % DIRECTIONS;
                if (direction != NONE && ground.ahead(harbours.homeOf(harbour), back, 1) == cell) {
                    names |= 1 << harbour;
                }
            }
            return names;
        }
    }

    /** The latest actions: the sheet as it was ahead of each. */
    private static final class History {
        private final Sheet[] past = new Sheet[MOST_ACTIONS];
        private int latest;
        private int count;

        void keep(Sheet sheet) {
            latest = Math.floorMod(latest + 1, MOST_ACTIONS);
            Sheet kept = past[latest];
            if (kept == null) {
                kept = new Sheet();
                past[latest] = kept;
            }
            kept.copyFrom(sheet);
            count = Math.min(count + 1, MOST_ACTIONS);
        }

        boolean giveBack(Sheet sheet) {
            if (count == 0 || latest < 0 || latest >= MOST_ACTIONS) {
                return false;
            }
            Sheet kept = past[latest];
            if (kept == null) {
                return false;
            }
            sheet.copyFrom(kept);
            latest = Math.floorMod(latest - 1, MOST_ACTIONS);
            count--;
            return true;
        }

        void forget() {
            count = 0;
        }
    }

    /** Finds the ways of rivers: first the least sum from every cell to an end, then a way down these sums. */
    private static final class Streams {
        private static final int PLAIN_COST = 1;
        private static final int LETTER_COST = 11;

        private final int[] costs = new int[MOST_CELLS];
        private final int[] sums = new int[MOST_CELLS];
        private final int[] way = new int[MOST_CELLS];
        private int length;

        void survey(Sheet sheet) {
            int cells = Math.min(sheet.ground.cells(), MOST_CELLS);
            for (int cell = 0; cell < cells; cell++) {
                boolean open = sheet.isOpen(cell);
                costs[cell] = !open ? 0 : sheet.namesIn(cell) != 0 ? LETTER_COST : PLAIN_COST;
                sums[cell] = open && sheet.ground.endsRiver(cell) ? costs[cell] : NONE;
            }
            boolean better = true;
            for (int round = 0; round < cells && better; round++) {
                better = improve(sheet.ground, cells);
            }
        }

        /** An end keeps its sum here, as every way through it to another end costs more. */
        private boolean improve(Ground ground, int cells) {
            boolean better = false;
            for (int cell = 0; cell < cells; cell++) {
                for (int direction = 0; direction < DIRECTIONS && costs[cell] != 0; direction++) {
                    int rest = sumOf(ground.ahead(cell, direction, 1));
                    if (rest != NONE && (sums[cell] == NONE || rest + costs[cell] < sums[cell])) {
                        sums[cell] = rest + costs[cell];
                        better = true;
                    }
                }
            }
            return better;
        }

        private int sumOf(int cell) {
            return cell >= 0 && cell < MOST_CELLS ? sums[cell] : NONE;
        }

        /** Follows the way from a cell, after a survey; tells how many cells it has, 0 if there is none. */
        int trace(Ground ground, int source) {
            length = 0;
            int cell = source;
            for (int index = 0; index < MOST_CELLS && sumOf(cell) != NONE; index++) {
                way[index] = cell;
                int rest = sums[cell] - costs[cell];
                if (rest == 0) {
                    length = index + 1;
                    return length;
                }
                cell = besideWithSum(ground, cell, rest);
            }
            return 0;
        }

        private int besideWithSum(Ground ground, int cell, int sum) {
            for (int direction = 0; direction < DIRECTIONS; direction++) {
                int beside = ground.ahead(cell, direction, 1);
                if (sumOf(beside) == sum) {
                    return beside;
                }
            }
            return NONE;
        }

        int wayAt(int index) {
            return index >= 0 && index < length && index < MOST_CELLS ? way[index] : NONE;
        }

        int namesOnWay(Sheet sheet) {
            int names = 0;
            for (int index = 0; index < length; index++) {
                names |= sheet.namesIn(wayAt(index));
            }
            return names;
        }
    }

    /**
     * Finds the best arrangement by trying the harbours in their order, each in its directions from the lowest on and
     * then not placed: of arrangements as good as one another the first one found is the one that is wanted.
     */
    private static final class Arranger {
        private int reds;
        private int bestReds;
        private int bestCount;
        private int bestTurning;
        /** For each harbour the directions that the ground allows, as a sum of 2^direction. */
        private final int[] allowed = new int[MOST_HARBOURS];
        /** For each option (harbour and direction) the options that it cannot stand with, as bits. */
        private final int[] foes = new int[MOST_HARBOURS * DIRECTIONS];
        private final int[] namesLeft = new int[MOST_HARBOURS + 1];
        private final int[] redsLeft = new int[MOST_HARBOURS + 1];
        private final int[] trial = new int[MOST_HARBOURS];
        private final int[] best = new int[MOST_HARBOURS];

        /** Without the harbour absent (NONE for none), if the harbours redNames are the red ones. */
        void findBest(Sheet sheet, int absent, int redNames) {
            reds = redNames;
            bestReds = NONE;
            bestCount = NONE;
            bestTurning = 0;
            for (int harbour = 0; harbour < MOST_HARBOURS; harbour++) {
                trial[harbour] = NONE;
                best[harbour] = NONE;
                allowed[harbour] = harbour == absent ? 0 : groundWays(sheet, harbour, absent);
            }
            countLeft();
            for (int option = 0; option < foes.length; option++) {
                foes[option] = isAllowed(option) ? foesOf(sheet, option) : 0;
            }
            seek(sheet, 0, 0, 0, 0);
        }

        int bestDirection(int harbour) {
            return harbour >= 0 && harbour < MOST_HARBOURS ? best[harbour] : NONE;
        }

        private int groundWays(Sheet sheet, int harbour, int absent) {
            int sum = 0;
            for (int direction = 0; direction < DIRECTIONS && harbour < sheet.harbours.count; direction++) {
                if (sheet.groundReason(harbour, direction, absent) == 0) {
                    sum |= 1 << direction;
                }
            }
            return sum;
        }

        /** Counts from behind how many names can still be placed from each harbour on. */
        private void countLeft() {
            namesLeft[MOST_HARBOURS] = 0;
            redsLeft[MOST_HARBOURS] = 0;
            for (int harbour = MOST_HARBOURS - 1; harbour >= 0; harbour--) {
                int one = allowed[harbour] == 0 ? 0 : 1;
                namesLeft[harbour] = namesLeft[harbour + 1] + one;
                redsLeft[harbour] = redsLeft[harbour + 1] + one * (reds >> harbour & 1);
            }
        }

        private boolean isAllowed(int option) {
            int harbour = option / DIRECTIONS;
            return harbour < MOST_HARBOURS && (allowed[harbour] >> option % DIRECTIONS & 1) == 1;
        }

        private int foesOf(Sheet sheet, int option) {
            int sum = 0;
            for (int other = 0; other < foes.length; other++) {
                boolean sameName = other / DIRECTIONS == option / DIRECTIONS;
                if (!sameName && isAllowed(other) && standAgainst(sheet, option, other)) {
                    sum |= 1 << other;
                }
            }
            return sum;
        }

        private boolean standAgainst(Sheet sheet, int option, int other) {
            int one = option / DIRECTIONS;
            int two = other / DIRECTIONS;
            boolean red = ((1 << one | 1 << two) & reds) != 0;
            int home = sheet.harbours.homeOf(one);
            int otherHome = sheet.harbours.homeOf(two);
            for (int index = 0; index < sheet.harbours.lengthOf(one); index++) {
                int cell = sheet.ground.ahead(home, option % DIRECTIONS, index + 1);
                int steps = sheet.ground.stepsTo(otherHome, other % DIRECTIONS, cell);
                int met = sheet.harbours.letterOf(two, steps - 1);
                if (met != NONE && (red || met != sheet.harbours.letterOf(one, index))) {
                    return true;
                }
            }
            return false;
        }

        /** The harbour is the depth of the recursion: at most one level for each and one to weigh. */
        private void seek(Sheet sheet, int harbour, int chosen, int redCount, int count) {
            if (harbour >= MOST_HARBOURS || harbour >= sheet.harbours.count) {
                weigh(sheet, redCount, count);
                return;
            }
            int mostReds = redCount + redsLeft[harbour];
            if (mostReds < bestReds || mostReds == bestReds && count + namesLeft[harbour] < bestCount) {
                return;
            }
            for (int direction = 0; direction < DIRECTIONS; direction++) {
                int option = harbour * DIRECTIONS + direction;
                if (isAllowed(option) && (foes[option] & chosen) == 0) {
                    trial[harbour] = direction;
                    seek(sheet, harbour + 1, chosen | 1 << option, redCount + (reds >> harbour & 1), count + 1);
                }
            }
            trial[harbour] = NONE;
            seek(sheet, harbour + 1, chosen, redCount, count);
        }

        private void weigh(Sheet sheet, int redCount, int count) {
            boolean same = redCount == bestReds && count == bestCount;
            boolean more = redCount > bestReds || redCount == bestReds && count > bestCount;
            if (!same && !more) {
                return;
            }
            int turning = sheet.journey.turningBy(trial, sheet.journey.turn);
            if (more || turning < bestTurning) {
                bestReds = redCount;
                bestCount = count;
                bestTurning = turning;
                for (int harbour = 0; harbour < MOST_HARBOURS; harbour++) {
                    best[harbour] = trial[harbour];
                }
            }
        }
    }

    /** Reads a description into a draft; the first error ends it. */
    private static final class Reader {
        private static final int BAD_TEXT = 1;
        private static final int BAD_RANGE = 2;
        private static final int BAD_PLACE = 3;
        private static final int NO_NAME = 4;
        private static final int LAND = 1;
        private static final int HARBOUR = 2;
        private static final int RIVER = 3;
        private static final int PLACE = 4;
        private static final int VOYAGE = 5;
        private static final int TURN = 6;
        /** Numbers grow no further than this, which is beyond every range. */
        private static final int LARGE = 1000;

        private final Sheet draft = new Sheet();
        private final Streams streams = new Streams();
        private final int[] text = new int[MOST_INPUT];
        private int length;
        private int at;
        private boolean voyageTold;
        private int wordStart;
        private int wordLength;
        private int numberStart;
        private int number;
        private int cell;
        private int statement;
        private int error;
        private int errorAt;

        void addByte(int value) {
            if (length < MOST_INPUT) {
                text[length] = value;
                length++;
            }
        }

        boolean readText() {
            at = 0;
            statement = 0;
            error = 0;
            errorAt = 0;
            voyageTold = false;
            boolean good = readChart();
            for (int count = 0; count <= length && good && nextSign() != NONE; count++) {
                good = takeSemicolon();
                switch (good ? takeKeyword() : NONE) {
                    case LAND: good = readLand(); break;
                    case HARBOUR: good = readHarbour(); break;
                    case RIVER: good = readRiver(); break;
                    case PLACE: good = readPlace(); break;
                    case VOYAGE: good = readVoyage(); break;
                    case TURN: good = readTurn(); break;
                    default: good = false;
                }
            }
            return good;
        }

        private boolean fail(int kind, int position) {
            error = kind;
            errorAt = position;
            return false;
        }

        // ---- words and numbers ----

        private int signAt(int position) {
            return position >= 0 && position < length && position < MOST_INPUT ? text[position] : NONE;
        }

        /** Passes over spaces; tells the byte that comes then, NONE at the end. */
        private int nextSign() {
            for (int count = 0; count < length && signAt(at) == SPACE; count++) {
                at++;
            }
            return signAt(at);
        }

        private static boolean isLetter(int sign) {
            return sign >= 'a' && sign <= 'z';
        }

        private static boolean isDigit(int sign) {
            return sign >= '0' && sign <= '9';
        }

        private boolean takeWord() {
            nextSign();
            wordStart = at;
            for (int count = 0; count < length && isLetter(signAt(at)); count++) {
                at++;
            }
            wordLength = at - wordStart;
            return wordLength > 0 || fail(BAD_TEXT, wordStart);
        }

        private boolean wordIs(String word) {
            if (wordLength != word.length()) {
                return false;
            }
            for (int index = 0; index < word.length(); index++) {
                if (signAt(wordStart + index) != word.charAt(index)) {
                    return false;
                }
            }
            return true;
        }

        private boolean takeNumber(int low, int high) {
            nextSign();
            numberStart = at;
            number = 0;
            for (int count = 0; count < length && isDigit(signAt(at)); count++) {
                number = Math.min(number * 10 + signAt(at) - '0', LARGE);
                at++;
            }
            if (at == numberStart) {
                return fail(BAD_TEXT, at);
            }
            return number >= low && number <= high || fail(BAD_RANGE, numberStart);
        }

        private boolean takeName() {
            return takeWord() && (wordLength <= MOST_LETTERS || fail(BAD_TEXT, wordStart));
        }

        /** The harbour that has the word as its name, NONE without any. */
        private int namedHarbour() {
            for (int harbour = 0; harbour < draft.harbours.count; harbour++) {
                boolean alike = draft.harbours.lengthOf(harbour) == wordLength;
                for (int index = 0; index < wordLength && alike; index++) {
                    alike = draft.harbours.letterOf(harbour, index) == signAt(wordStart + index);
                }
                if (alike) {
                    return harbour;
                }
            }
            return NONE;
        }

        private boolean takeCell() {
            if (!takeNumber(0, draft.ground.rows - 1)) {
                return false;
            }
            int row = number;
            if (!takeNumber(0, draft.ground.columns - 1)) {
                return false;
            }
            cell = row * draft.ground.columns + number;
            return true;
        }

        // ---- statements ----

        private boolean readChart() {
            if (!takeWord()) {
                return false;
            }
            if (!wordIs("chart")) {
                return fail(BAD_TEXT, wordStart);
            }
            if (!takeNumber(LEAST_SIDE, MOST_SIDE)) {
                return false;
            }
            int rows = number;
            if (!takeNumber(LEAST_SIDE, MOST_SIDE)) {
                return false;
            }
            draft.beginSea(rows, number);
            return true;
        }

        private boolean takeSemicolon() {
            if (nextSign() != SEMICOLON) {
                return fail(BAD_TEXT, at);
            }
            at++;
            statement++;
            return true;
        }

        private int takeKeyword() {
            if (!takeWord()) {
                return NONE;
            }
            int keyword = wordIs("land") ? LAND
                : wordIs("harbour") ? HARBOUR
                : wordIs("river") ? RIVER
                : wordIs("place") ? PLACE
                : wordIs("voyage") ? VOYAGE
                : wordIs("turn") ? TURN
                : NONE;
            if (keyword == NONE) {
                fail(BAD_TEXT, wordStart);
            }
            return keyword;
        }

        private boolean readLand() {
            if (draft.harbours.count > 0 || draft.ground.rivers > 0) {
                return fail(BAD_PLACE, wordStart);
            }
            if (!takeCell()) {
                return false;
            }
            int first = cell;
            if (!takeNumber(number, draft.ground.columns - 1)) {
                return false;
            }
            int last = first - first % Math.max(1, draft.ground.columns) + number;
            for (int filled = first; filled <= last; filled++) {
                draft.ground.setLand(filled, true);
            }
            return true;
        }

        private boolean readHarbour() {
            if (draft.harbours.count >= MOST_HARBOURS) {
                return fail(BAD_PLACE, wordStart);
            }
            if (!takeName()) {
                return false;
            }
            if (namedHarbour() != NONE) {
                return fail(BAD_PLACE, wordStart);
            }
            int nameStart = wordStart;
            int nameLength = wordLength;
            if (!takeCell()) {
                return false;
            }
            if (!draft.isOpen(cell) || draft.namesIn(cell) != 0 || !draft.ground.hasSeaBeside(cell, NONE)) {
                return fail(BAD_PLACE, numberStart);
            }
            draft.harbours.addHarbour(cell, text, nameStart, nameLength);
            return readRed(draft.harbours.count - 1);
        }

        private boolean readRed(int harbour) {
            if (!isLetter(nextSign())) {
                return true;
            }
            takeWord();
            if (!wordIs("red")) {
                return fail(BAD_TEXT, wordStart);
            }
            draft.harbours.reds = draft.harbours.redsIf(harbour, true);
            return true;
        }

        private boolean readRiver() {
            if (draft.ground.rivers >= MOST_RIVERS) {
                return fail(BAD_PLACE, wordStart);
            }
            if (!takeCell()) {
                return false;
            }
            streams.survey(draft);
            if (streams.trace(draft.ground, cell) == 0) {
                return fail(BAD_PLACE, numberStart);
            }
            draft.takeNames(streams.namesOnWay(draft));
            draft.ground.layRiver(streams.way, streams.length);
            return true;
        }

        private int directionWord() {
            return wordIs("up") ? 0 : wordIs("right") ? 1 : wordIs("down") ? 2 : wordIs("left") ? 3 : NONE;
        }

        private boolean readPlace() {
            if (!takeName()) {
                return false;
            }
            int harbour = namedHarbour();
            if (harbour == NONE) {
                return fail(NO_NAME, wordStart);
            }
            if (!takeWord()) {
                return false;
            }
            int direction = directionWord();
            if (direction == NONE) {
                return fail(BAD_TEXT, wordStart);
            }
            if (draft.reasonAgainst(harbour, direction) != 0) {
                return fail(BAD_PLACE, wordStart);
            }
            draft.putName(harbour, direction);
            return true;
        }

        private boolean readVoyage() {
            if (voyageTold) {
                return fail(BAD_PLACE, wordStart);
            }
            voyageTold = true;
            for (int count = 0; count == 0 || isLetter(nextSign()) && count <= MOST_STOPS; count++) {
                if (!takeName()) {
                    return false;
                }
                if (count == MOST_STOPS) {
                    return fail(BAD_PLACE, wordStart);
                }
                int harbour = namedHarbour();
                if (harbour == NONE) {
                    return fail(NO_NAME, wordStart);
                }
                draft.journey.addStop(harbour);
            }
            return true;
        }

        private boolean readTurn() {
            if (!takeNumber(0, DIRECTIONS - 1)) {
                return false;
            }
            draft.journey.turn = number;
            return true;
        }
    }
}
