import java.util.Arrays;

/** A library of maps cut into sheets. ../shared/DOC.md says what each call promises. */
public final class MapSheets {
    public static final int INVALID_ARGUMENT = -1;
    public static final int NOT_POSSIBLE = -2;
    public static final int LIMIT_REACHED = -3;
    public static final int NOT_FOUND = -4;

    private static final int MOST_COLUMNS = 6;
    private static final int MOST_ROWS = 6;
    private static final int MOST_SHEETS = 36;
    private static final int MOST_EDGES = 60;
    private static final int MOST_STATES = 4;
    private static final int MOST_CHARACTERS = 100;
    private static final int MOST_TOLERANCE = 1000;
    private static final int MOST_THOUSANDTHS = 1000000;
    private static final int MOST_UNITS = 10000000;

    private static final int NORTH = 0;
    private static final int EAST = 1;
    private static final int SOUTH = 2;
    private static final int WEST = 3;
    private static final int SIDES = 4;
    private static final int POSITIONS = 10;
    private static final int SIGNS = 10;

    /** The document lets show answer 10 where there was no sign, so no sign is kept as 10. */
    private static final int NO_SIGN = 10;
    private static final int NO_REVISION = -1;

    private static final int NO_QUARREL = 0;
    private static final int ONE_SIDE_ONLY = 1;
    private static final int OTHER_MEANING = 2;

    private static final int EXPECT_SIDE = 0;
    private static final int EXPECT_POSITION = 1;
    private static final int EXPECT_CROSSING = 2;
    private static final int EXPECT_SIGN = 3;
    private static final int EXPECT_END = 4;
    private static final int CANNOT_STAND = 5;

    private final Atlas now = new Atlas();
    private final History history = new History();
    private final Blocks blocks = new Blocks();
    private final SignText text = new SignText();

    public MapSheets() {
    }

    // ---- grid and sheets

    public int grid(int columns, int rows) {
        if (!isWithin(columns, 1, MOST_COLUMNS) || !isWithin(rows, 1, MOST_ROWS)) {
            return INVALID_ARGUMENT;
        }
        history.recordState(now);
        now.begin(columns, rows);
        history.keepRecord();
        return now.edgeCount();
    }

    public int set(int what, int value) {
        if (!isWithin(what, 0, 1) || !isWithin(value, 0, what == 0 ? 1 : MOST_TOLERANCE)) {
            return INVALID_ARGUMENT;
        }
        history.recordState(now);
        int previous = what == 0 ? now.putGuard(value) : now.putTolerance(value);
        history.keepRecord();
        return previous;
    }

    public int show(int sheet, int side, int position, int sign) {
        if (!now.hasPlace(sheet, side, position) || !isDigit(sign)) {
            return INVALID_ARGUMENT;
        }
        history.recordState(now);
        int previous = now.putSign(sheet, side, position, sign);
        return endRevision(sheet, previous);
    }

    public int erase(int sheet, int side, int position) {
        if (!now.hasPlace(sheet, side, position)) {
            return INVALID_ARGUMENT;
        }
        if (now.signAt(sheet, side, position) == NO_SIGN) {
            return NOT_POSSIBLE;
        }
        history.recordState(now);
        int previous = now.putSign(sheet, side, position, NO_SIGN);
        return endRevision(sheet, previous);
    }

    public int mean(int sheet, int sign, int meaning) {
        if (!now.hasSheet(sheet) || !isDigit(sign) || !isDigit(meaning)) {
            return INVALID_ARGUMENT;
        }
        history.recordState(now);
        int previous = now.putMeaning(sheet, sign, meaning);
        return endRevision(sheet, previous);
    }

    public int sign(int sheet, int side, int position) {
        if (!now.hasPlace(sheet, side, position)) {
            return INVALID_ARGUMENT;
        }
        int shown = now.signAt(sheet, side, position);
        return shown == NO_SIGN ? NOT_FOUND : shown;
    }

    public int meaning(int sheet, int sign) {
        if (!now.hasSheet(sheet) || !isDigit(sign)) {
            return INVALID_ARGUMENT;
        }
        return now.meaningOf(sheet, sign);
    }

    public int sheet(int sheet, int what) {
        if (!now.hasSheet(sheet)) {
            return INVALID_ARGUMENT;
        }
        switch (what) {
            case 0:
                return now.columnOf(sheet);
            case 1:
                return now.rowOf(sheet);
            case 2:
                return now.edgesOf(sheet);
            case 3:
                return now.agreedEdgesOf(sheet);
            case 4:
                return now.revisionOf(sheet);
            case 5:
                return now.isPublished(sheet) ? now.publishedOf(sheet) : NOT_FOUND;
            case 6:
                return now.isUpToDate(sheet) ? 1 : 0;
            case 7:
                return now.scaleOf(sheet);
            case 8:
                return now.signsShownOn(sheet);
            case 9:
                blocks.find(now);
                return blocks.lowestOf(sheet);
            default:
                return INVALID_ARGUMENT;
        }
    }

    public int count(int what) {
        switch (what) {
            case 0:
                return now.columnCount();
            case 1:
                return now.rowCount();
            case 2:
                return now.sheetCount();
            case 3:
                return now.edgeCount();
            case 4:
                return now.agreedEdges();
            case 5:
                return now.cleanEdges();
            case 6:
                return now.quarrelsOfAll();
            case 7:
                return blocks.find(now);
            case 8:
                return now.publishedSheets();
            case 9:
                return now.sheetsUpToDate();
            case 10:
                return now.fittingEdges();
            case 11:
                return history.stateCount();
            case 12:
                return text.characterCount();
            case 13:
                return now.guardValue();
            case 14:
                return now.toleranceValue();
            default:
                return INVALID_ARGUMENT;
        }
    }

    public int undo() {
        if (history.stateCount() == 0) {
            return NOT_POSSIBLE;
        }
        history.restoreLatest(now);
        return history.stateCount();
    }

    // ---- edges

    public int edge(int edge, int what) {
        if (!now.hasEdge(edge)) {
            return INVALID_ARGUMENT;
        }
        switch (what) {
            case 0:
                return now.firstSheet(edge);
            case 1:
                return now.secondSheet(edge);
            case 2:
                return now.firstSide(edge);
            case 3:
                return now.isAgreed(edge) ? 1 : 0;
            case 4:
                return now.quarrelsOf(edge);
            case 5:
                return now.signsOnBothSides(edge);
            case 6:
                return now.isFitting(edge) ? 1 : 0;
            default:
                return INVALID_ARGUMENT;
        }
    }

    public int edgeAt(int sheet, int side) {
        if (!now.hasSheet(sheet) || !isWithin(side, 0, SIDES - 1)) {
            return INVALID_ARGUMENT;
        }
        return now.edgeOf(sheet, side);
    }

    public int quarrel(int edge, int index, int what) {
        if (!now.hasEdge(edge) || index < 0 || !isWithin(what, 0, 3)) {
            return INVALID_ARGUMENT;
        }
        int position = now.positionOfQuarrel(edge, index);
        if (position == NOT_FOUND) {
            return NOT_FOUND;
        }
        switch (what) {
            case 0:
                return position;
            case 1:
                return now.reasonAt(edge, position);
            case 2:
                return now.meaningAt(now.firstSheet(edge), now.firstSide(edge), position);
            default:
                return now.meaningAt(now.secondSheet(edge), now.secondSide(edge), position);
        }
    }

    public int agree(int edge) {
        if (!now.hasEdge(edge)) {
            return INVALID_ARGUMENT;
        }
        if (now.quarrelsOf(edge) > 0) {
            return NOT_POSSIBLE;
        }
        history.recordState(now);
        int previous = now.putAgreed(edge, 1);
        history.keepRecord();
        return previous;
    }

    public int release(int edge) {
        if (!now.hasEdge(edge)) {
            return INVALID_ARGUMENT;
        }
        if (!now.isAgreed(edge)) {
            return NOT_POSSIBLE;
        }
        history.recordState(now);
        now.putAgreed(edge, 0);
        history.keepRecord();
        return blocks.find(now);
    }

    public int settle(int edge, int sheet) {
        if (!now.hasEdge(edge)) {
            return INVALID_ARGUMENT;
        }
        if (sheet != now.firstSheet(edge) && sheet != now.secondSheet(edge)) {
            return INVALID_ARGUMENT;
        }
        history.recordState(now);
        int changed = now.settleFrom(edge, sheet);
        if (changed == NOT_POSSIBLE) {
            history.returnToRecord(now);
            return NOT_POSSIBLE;
        }
        history.keepRecord();
        return changed;
    }

    public int ratio(int edge) {
        if (!now.hasEdge(edge)) {
            return INVALID_ARGUMENT;
        }
        return bitsOf(now.ratioOf(edge));
    }

    public int publish(int sheet) {
        if (!now.hasSheet(sheet)) {
            return INVALID_ARGUMENT;
        }
        if (now.agreedEdgesOf(sheet) < now.edgesOf(sheet)) {
            return NOT_POSSIBLE;
        }
        history.recordState(now);
        now.publishRevision(sheet);
        history.keepRecord();
        return now.revisionOf(sheet);
    }

    public int scale(int sheet, int thousandths) {
        if (!now.hasSheet(sheet) || !isWithin(thousandths, 1, MOST_THOUSANDTHS)) {
            return INVALID_ARGUMENT;
        }
        history.recordState(now);
        int previous = now.putScale(sheet, thousandths);
        history.keepRecord();
        return previous;
    }

    public int stretched(int sheet, int units) {
        if (!now.hasSheet(sheet) || !isWithin(units, 0, MOST_UNITS)) {
            return INVALID_ARGUMENT;
        }
        return (int) ((float) units * now.floatScale(sheet));
    }

    // ---- texts

    public int type(int character) {
        if (!isWithin(character, 32, 126)) {
            return INVALID_ARGUMENT;
        }
        if (text.characterCount() >= MOST_CHARACTERS) {
            return LIMIT_REACHED;
        }
        text.appendCharacter((char) character);
        return text.characterCount();
    }

    public int clearText() {
        int previous = text.characterCount();
        text.removeAll();
        return previous;
    }

    public int fault() {
        return text.firstFault();
    }

    public int read(int sheet) {
        if (!now.hasSheet(sheet)) {
            return INVALID_ARGUMENT;
        }
        if (text.firstFault() != NOT_FOUND) {
            return NOT_POSSIBLE;
        }
        history.recordState(now);
        int taken = text.takeInto(now, sheet);
        if (taken == 0) {
            // An empty text is a change, but no revision.
            history.keepRecord();
            return 0;
        }
        return endRevision(sheet, taken);
    }

    /** Ends a change of what a sheet shows or means: the guard goes by what has come of it. */
    private int endRevision(int sheet, int answer) {
        if (now.guardValue() == 1 && now.breaksAgreement(sheet)) {
            history.returnToRecord(now);
            return NOT_POSSIBLE;
        }
        now.dropBrokenAgreements(sheet);
        now.addRevision(sheet);
        history.keepRecord();
        return answer;
    }

    private static boolean isWithin(int value, int least, int most) {
        return value >= least && value <= most;
    }

    private static boolean isDigit(int value) {
        return isWithin(value, 0, 9);
    }

    private static int valueAt(int[] row, int index, int otherwise) {
        return index >= 0 && index < row.length ? row[index] : otherwise;
    }

    /** Puts a value in a row and returns the one that was there. */
    private static int exchange(int[] row, int index, int value) {
        if (index < 0 || index >= row.length) {
            return value;
        }
        int previous = row[index];
        row[index] = value;
        return previous;
    }

    private static void copyRow(int[] from, int[] to) {
        if (from.length == to.length) {
            System.arraycopy(from, 0, to, 0, from.length);
        }
    }

    /**
     * The bits of a positive float that is no subnormal one. LANGUAGE.md leaves no Float, so they
     * are found by halving and doubling, which is exact.
     */
    private static int bitsOf(float number) {
        float rest = number;
        int exponent = 127;
        for (int i = 0; i < 127 && rest >= 2.0f; i++) {
            rest = rest / 2.0f;
            exponent++;
        }
        for (int i = 0; i < 126 && rest < 1.0f; i++) {
            rest = rest * 2.0f;
            exponent--;
        }
        return (exponent << 23) + (int) ((rest - 1.0f) * 8388608.0f);
    }

    /** Everything that a change records: the settings, the grid and all that its sheets have. */
    private static final class Atlas {
        private final int[] signs = new int[MOST_SHEETS * SIDES * POSITIONS];
        private final int[] meanings = new int[MOST_SHEETS * SIGNS];
        private final int[] revisions = new int[MOST_SHEETS];
        private final int[] published = new int[MOST_SHEETS];
        private final int[] scales = new int[MOST_SHEETS];
        private final int[] agreed = new int[MOST_EDGES];
        private int columns;
        private int rows;
        private int guard = 1;
        private int tolerance = 20;

        Atlas() {
            begin(3, 2);
        }

        void begin(int newColumns, int newRows) {
            columns = newColumns;
            rows = newRows;
            Arrays.fill(signs, NO_SIGN);
            for (int i = 0; i < meanings.length; i++) {
                meanings[i] = i % SIGNS;
            }
            Arrays.fill(revisions, 0);
            Arrays.fill(published, NO_REVISION);
            Arrays.fill(scales, 1000);
            Arrays.fill(agreed, 0);
        }

        void copyFrom(Atlas other) {
            copyRow(other.signs, signs);
            copyRow(other.meanings, meanings);
            copyRow(other.revisions, revisions);
            copyRow(other.published, published);
            copyRow(other.scales, scales);
            copyRow(other.agreed, agreed);
            columns = other.columns;
            rows = other.rows;
            guard = other.guard;
            tolerance = other.tolerance;
        }

        int guardValue() {
            return guard;
        }

        int toleranceValue() {
            return tolerance;
        }

        int putGuard(int value) {
            int previous = guard;
            guard = value;
            return previous;
        }

        int putTolerance(int value) {
            int previous = tolerance;
            tolerance = value;
            return previous;
        }

        int columnCount() {
            return columns;
        }

        int rowCount() {
            return rows;
        }

        int sheetCount() {
            return columns * rows;
        }

        boolean hasSheet(int sheet) {
            return sheet >= 0 && sheet < sheetCount();
        }

        boolean hasPlace(int sheet, int side, int position) {
            return hasSheet(sheet) && isWithin(side, 0, SIDES - 1)
                    && isWithin(position, 0, POSITIONS - 1);
        }

        int columnOf(int sheet) {
            return columns > 0 ? sheet % columns : 0;
        }

        int rowOf(int sheet) {
            return columns > 0 ? sheet / columns : 0;
        }

        /** The number of edges between neighbours of a row, which come before the others. */
        int rowEdgeCount() {
            return (columns - 1) * rows;
        }

        int edgeCount() {
            return rowEdgeCount() + columns * (rows - 1);
        }

        boolean hasEdge(int edge) {
            return edge >= 0 && edge < edgeCount();
        }

        int firstSheet(int edge) {
            int edgesInRow = columns - 1;
            int rowEdges = edgesInRow * rows;
            if (edgesInRow > 0 && edge < rowEdges) {
                // A row has one sheet more than edges, so each full row before shifts by one.
                return edge + edge / edgesInRow;
            }
            return edge - rowEdges;
        }

        int secondSheet(int edge) {
            return firstSheet(edge) + (edge < rowEdgeCount() ? 1 : columns);
        }

        int firstSide(int edge) {
            return edge < rowEdgeCount() ? EAST : SOUTH;
        }

        int secondSide(int edge) {
            return edge < rowEdgeCount() ? WEST : NORTH;
        }

        /** The edge of a side, NOT_FOUND for an outer one. */
        int edgeOf(int sheet, int side) {
            int column = columnOf(sheet);
            int row = rowOf(sheet);
            int eastEdge = row * (columns - 1) + column;
            int southEdge = rowEdgeCount() + sheet;
            switch (side) {
                case NORTH:
                    return row > 0 ? southEdge - columns : NOT_FOUND;
                case EAST:
                    return column < columns - 1 ? eastEdge : NOT_FOUND;
                case SOUTH:
                    return row < rows - 1 ? southEdge : NOT_FOUND;
                default:
                    return column > 0 ? eastEdge - 1 : NOT_FOUND;
            }
        }

        int edgesOf(int sheet) {
            int found = 0;
            for (int side = 0; side < SIDES; side++) {
                if (edgeOf(sheet, side) != NOT_FOUND) {
                    found++;
                }
            }
            return found;
        }

        private static int placeOf(int sheet, int side, int position) {
            return (sheet * SIDES + side) * POSITIONS + position;
        }

        int signAt(int sheet, int side, int position) {
            return valueAt(signs, placeOf(sheet, side, position), NO_SIGN);
        }

        int putSign(int sheet, int side, int position, int sign) {
            return exchange(signs, placeOf(sheet, side, position), sign);
        }

        int signsShownOn(int sheet) {
            int shown = 0;
            for (int side = 0; side < SIDES; side++) {
                for (int position = 0; position < POSITIONS; position++) {
                    if (signAt(sheet, side, position) != NO_SIGN) {
                        shown++;
                    }
                }
            }
            return shown;
        }

        int meaningOf(int sheet, int sign) {
            return valueAt(meanings, sheet * SIGNS + sign, 0);
        }

        int putMeaning(int sheet, int sign, int meaning) {
            return exchange(meanings, sheet * SIGNS + sign, meaning);
        }

        /** The lowest sign of a sheet that has the meaning, NOT_FOUND if none has. */
        int lowestSign(int sheet, int meaning) {
            for (int sign = 0; sign < SIGNS; sign++) {
                if (meaningOf(sheet, sign) == meaning) {
                    return sign;
                }
            }
            return NOT_FOUND;
        }

        /** What a sheet means at a position, NOT_FOUND if it shows nothing there. */
        int meaningAt(int sheet, int side, int position) {
            // The rows themselves are asked: LANGUAGE.md keeps calls at most eight deep.
            int sign = valueAt(signs, placeOf(sheet, side, position), NO_SIGN);
            return sign == NO_SIGN ? NOT_FOUND : valueAt(meanings, sheet * SIGNS + sign, NOT_FOUND);
        }

        int reasonAt(int edge, int position) {
            int first = meaningAt(firstSheet(edge), firstSide(edge), position);
            int second = meaningAt(secondSheet(edge), secondSide(edge), position);
            if (first == second) {
                return NO_QUARREL;
            }
            return first == NOT_FOUND || second == NOT_FOUND ? ONE_SIDE_ONLY : OTHER_MEANING;
        }

        int quarrelsOf(int edge) {
            int found = 0;
            for (int position = 0; position < POSITIONS; position++) {
                if (reasonAt(edge, position) != NO_QUARREL) {
                    found++;
                }
            }
            return found;
        }

        /** The position of the quarrel with an index, NOT_FOUND if there are not so many. */
        int positionOfQuarrel(int edge, int index) {
            int before = 0;
            for (int position = 0; position < POSITIONS; position++) {
                if (reasonAt(edge, position) != NO_QUARREL) {
                    if (before == index) {
                        return position;
                    }
                    before++;
                }
            }
            return NOT_FOUND;
        }

        int signsOnBothSides(int edge) {
            int found = 0;
            for (int position = 0; position < POSITIONS; position++) {
                int first = signAt(firstSheet(edge), firstSide(edge), position);
                int second = signAt(secondSheet(edge), secondSide(edge), position);
                if (first != NO_SIGN && second != NO_SIGN) {
                    found++;
                }
            }
            return found;
        }

        int quarrelsOfAll() {
            int edges = edgeCount();
            int found = 0;
            for (int edge = 0; edge < edges; edge++) {
                found += quarrelsOf(edge);
            }
            return found;
        }

        int cleanEdges() {
            int edges = edgeCount();
            int found = 0;
            for (int edge = 0; edge < edges; edge++) {
                if (quarrelsOf(edge) == 0) {
                    found++;
                }
            }
            return found;
        }

        boolean isAgreed(int edge) {
            return valueAt(agreed, edge, 0) == 1;
        }

        int putAgreed(int edge, int value) {
            return exchange(agreed, edge, value);
        }

        int agreedEdges() {
            int edges = edgeCount();
            int found = 0;
            for (int edge = 0; edge < edges; edge++) {
                if (isAgreed(edge)) {
                    found++;
                }
            }
            return found;
        }

        int agreedEdgesOf(int sheet) {
            int found = 0;
            for (int side = 0; side < SIDES; side++) {
                if (isAgreed(edgeOf(sheet, side))) {
                    found++;
                }
            }
            return found;
        }

        boolean breaksAgreement(int sheet) {
            for (int side = 0; side < SIDES; side++) {
                int edge = edgeOf(sheet, side);
                if (isAgreed(edge) && quarrelsOf(edge) > 0) {
                    return true;
                }
            }
            return false;
        }

        void dropBrokenAgreements(int sheet) {
            for (int side = 0; side < SIDES; side++) {
                int edge = edgeOf(sheet, side);
                if (isAgreed(edge) && quarrelsOf(edge) > 0) {
                    putAgreed(edge, 0);
                }
            }
        }

        /**
         * Settles an edge from one of its sheets; the changed positions of the other one, or
         * NOT_POSSIBLE if a sign lacks: then some positions may be changed already.
         */
        int settleFrom(int edge, int sheet) {
            boolean fromFirst = sheet == firstSheet(edge);
            int side = fromFirst ? firstSide(edge) : secondSide(edge);
            int other = fromFirst ? secondSheet(edge) : firstSheet(edge);
            int otherSide = fromFirst ? secondSide(edge) : firstSide(edge);
            int changed = 0;
            for (int position = 0; position < POSITIONS; position++) {
                int wanted = meaningAt(sheet, side, position);
                if (wanted == meaningAt(other, otherSide, position)) {
                    continue;
                }
                int sign = wanted == NOT_FOUND ? NO_SIGN : lowestSign(other, wanted);
                if (sign == NOT_FOUND) {
                    return NOT_POSSIBLE;
                }
                putSign(other, otherSide, position, sign);
                changed++;
            }
            if (changed > 0) {
                addRevision(other);
            }
            return changed;
        }

        int revisionOf(int sheet) {
            return valueAt(revisions, sheet, 0);
        }

        void addRevision(int sheet) {
            exchange(revisions, sheet, revisionOf(sheet) + 1);
        }

        int publishedOf(int sheet) {
            return valueAt(published, sheet, NO_REVISION);
        }

        void publishRevision(int sheet) {
            exchange(published, sheet, revisionOf(sheet));
        }

        boolean isPublished(int sheet) {
            return publishedOf(sheet) != NO_REVISION;
        }

        boolean isUpToDate(int sheet) {
            return isPublished(sheet) && publishedOf(sheet) == revisionOf(sheet);
        }

        int publishedSheets() {
            int sheets = sheetCount();
            int found = 0;
            for (int sheet = 0; sheet < sheets; sheet++) {
                if (isPublished(sheet)) {
                    found++;
                }
            }
            return found;
        }

        int sheetsUpToDate() {
            int sheets = sheetCount();
            int found = 0;
            for (int sheet = 0; sheet < sheets; sheet++) {
                if (isUpToDate(sheet)) {
                    found++;
                }
            }
            return found;
        }

        int scaleOf(int sheet) {
            return valueAt(scales, sheet, 1000);
        }

        int putScale(int sheet, int thousandths) {
            return exchange(scales, sheet, thousandths);
        }

        float floatScale(int sheet) {
            return (float) scaleOf(sheet) / 1000.0f;
        }

        float ratioOf(int edge) {
            float second = floatScale(secondSheet(edge));
            return second > 0.0f ? floatScale(firstSheet(edge)) / second : 1.0f;
        }

        boolean isFitting(int edge) {
            double difference = (double) ratioOf(edge) - 1.0;
            double size = difference < 0.0 ? -difference : difference;
            return size <= (double) tolerance / 1000.0;
        }

        int fittingEdges() {
            int edges = edgeCount();
            int found = 0;
            for (int edge = 0; edge < edges; edge++) {
                if (isFitting(edge)) {
                    found++;
                }
            }
            return found;
        }
    }

    /**
     * The states that undo goes back to, in a ring. It has one place more than the history may hold:
     * there a change is recorded before it is known whether the change is possible.
     */
    private static final class History {
        private static final int PLACES = MOST_STATES + 1;

        private final Atlas[] states = new Atlas[PLACES];
        private int oldest = 0;
        private int size = 0;

        History() {
            for (int i = 0; i < states.length; i++) {
                states[i] = new Atlas();
            }
        }

        int stateCount() {
            return size;
        }

        void recordState(Atlas now) {
            Atlas free = stateAt(size);
            if (free != null) {
                free.copyFrom(now);
            }
        }

        void returnToRecord(Atlas now) {
            Atlas recorded = stateAt(size);
            if (recorded != null) {
                now.copyFrom(recorded);
            }
        }

        void keepRecord() {
            if (size < MOST_STATES) {
                size++;
            } else {
                oldest = (oldest + 1) % PLACES;
            }
        }

        void restoreLatest(Atlas now) {
            if (size > 0) {
                size--;
                returnToRecord(now);
            }
        }

        private Atlas stateAt(int age) {
            int place = (oldest + age) % PLACES;
            return place >= 0 && place < states.length ? states[place] : null;
        }
    }

    /** The blocks of sheets that are joined by agreed edges, each known by its lowest sheet. */
    private static final class Blocks {
        private final int[] lowest = new int[MOST_SHEETS];

        /** Finds the blocks of an atlas and returns how many there are. */
        int find(Atlas atlas) {
            for (int sheet = 0; sheet < lowest.length; sheet++) {
                lowest[sheet] = sheet;
            }
            int edges = atlas.edgeCount();
            int found = atlas.sheetCount();
            for (int edge = 0; edge < edges; edge++) {
                if (!atlas.isAgreed(edge)) {
                    continue;
                }
                int first = lowestOf(atlas.firstSheet(edge));
                int second = lowestOf(atlas.secondSheet(edge));
                if (first != second) {
                    join(Math.min(first, second), Math.max(first, second));
                    found--;
                }
            }
            return found;
        }

        int lowestOf(int sheet) {
            return valueAt(lowest, sheet, sheet);
        }

        private void join(int lower, int higher) {
            for (int sheet = 0; sheet < lowest.length; sheet++) {
                if (lowest[sheet] == higher) {
                    lowest[sheet] = lower;
                }
            }
        }
    }

    /** The text of signs for a sheet, each as "n3=5;" or "n3-;". */
    private static final class SignText {
        private final char[] characters = new char[MOST_CHARACTERS];
        private int length = 0;

        int characterCount() {
            return length;
        }

        void appendCharacter(char character) {
            if (length >= 0 && length < characters.length) {
                characters[length] = character;
                length++;
            }
        }

        void removeAll() {
            length = 0;
        }

        int firstFault() {
            int expected = EXPECT_SIDE;
            for (int i = 0; i < length && i < characters.length; i++) {
                expected = expectedAfter(expected, characters[i]);
                if (expected == CANNOT_STAND) {
                    return i;
                }
            }
            return expected == EXPECT_SIDE ? NOT_FOUND : length;
        }

        /** Takes the signs of a text without a fault into a sheet; how many there are. */
        int takeInto(Atlas atlas, int sheet) {
            int expected = EXPECT_SIDE;
            int side = NORTH;
            int position = 0;
            int sign = NO_SIGN;
            int taken = 0;
            for (int i = 0; i < length && i < characters.length; i++) {
                char character = characters[i];
                if (expected == EXPECT_SIDE) {
                    side = sideNamed(character);
                    sign = NO_SIGN;
                } else if (expected == EXPECT_POSITION) {
                    position = character - '0';
                } else if (expected == EXPECT_SIGN) {
                    sign = character - '0';
                } else if (expected == EXPECT_END) {
                    atlas.putSign(sheet, side, position, sign);
                    taken++;
                }
                expected = expectedAfter(expected, character);
            }
            return taken;
        }

        private static int expectedAfter(int expected, char character) {
            switch (expected) {
                case EXPECT_SIDE:
                    return sideNamed(character) == NOT_FOUND ? CANNOT_STAND : EXPECT_POSITION;
                case EXPECT_POSITION:
                    return isDigit(character - '0') ? EXPECT_CROSSING : CANNOT_STAND;
                case EXPECT_CROSSING:
                    if (character == '-') {
                        return EXPECT_END;
                    }
                    return character == '=' ? EXPECT_SIGN : CANNOT_STAND;
                case EXPECT_SIGN:
                    return isDigit(character - '0') ? EXPECT_END : CANNOT_STAND;
                case EXPECT_END:
                    return character == ';' ? EXPECT_SIDE : CANNOT_STAND;
                default:
                    return CANNOT_STAND;
            }
        }

        private static int sideNamed(char character) {
            switch (character) {
                case 'n':
                    return NORTH;
                case 'e':
                    return EAST;
                case 's':
                    return SOUTH;
                case 'w':
                    return WEST;
                default:
                    return NOT_FOUND;
            }
        }
    }
}
