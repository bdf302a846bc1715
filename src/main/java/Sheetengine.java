/** Two sheets of cells with formulas, of which only what hangs on a change is reckoned anew. */
public final class Sheetengine {
    private static final int NONE = -1;
    private static final int REFUSED = -9;
    private static final String REFUSED_TEXT = "-9";

    private static final int PLACES = 480;
    private static final int SHEET_PLACES = 240;
    private static final int SHEETS = 2;
    private static final int ROWS = 30;
    private static final int COLUMNS = 8;
    private static final int NAMES = 6;
    private static final int MOST_CELLS = 60;
    private static final int MOST_TOKENS = 30;
    private static final int MOST_UNDONE = 10;
    private static final int FIRST_DIGEST = 5904;

    /** Kinds of VALUES, with the numbers that ofPlace() tells; AREA stands only among operands. */
    private static final int EMPTY = 0;
    private static final int NUMBER = 1;
    private static final int TEXT = 2;
    private static final int TRUTH = 3;
    private static final int FAULT = 4;
    private static final int AREA = 5;

    private static final int RING = 0;
    private static final int ZERO = 1;
    private static final int KIND = 2;
    private static final int MISSED = 3;
    private static final int NO_PLACE = 4;
    private static final int GONE = 5;
    private static final int NO_NAME = 6;
    private static final int LONG = 7;

    /** Words as the INPUT numbers them; TURN, the "-" ahead of an operand, is made in reading alone. */
    private static final int PLUS = 0;
    private static final int MINUS = 1;
    private static final int TIMES = 2;
    private static final int OVER = 3;
    private static final int JOIN = 4;
    private static final int ALIKE = 5;
    private static final int UNLIKE = 6;
    private static final int LESS = 7;
    private static final int LESS_OR_ALIKE = 8;
    private static final int OPEN = 9;
    private static final int CLOSE = 10;
    private static final int COMMA = 11;
    private static final int IF = 12;
    private static final int SUM = 13;
    private static final int COUNT = 14;
    private static final int LEAST = 15;
    private static final int MOST = 16;
    private static final int LOOK = 17;
    private static final int COUNTIF = 18;
    private static final int NOT = 19;
    private static final int ISFAULT = 20;
    private static final int TURN = 21;

    /** The state now, those that can be undone behind it and those that can be done again ahead, in a ring. */
    private final Sheets[] past = new Sheets[MOST_UNDONE + 1];
    private final Sheets trial = new Sheets();
    private final Sheets spare = new Sheets();
    private final Slate slate = new Slate();
    private final Reader reader = new Reader();
    private final Scribe scribe = new Scribe();
    private final Reckoner reckoner = new Reckoner(slate, reader);
    private final Rows rows = new Rows(slate);
    private final int[] inputTokens = new int[MOST_TOKENS];
    /** What is to be put; two more for what is looked at. */
    private final Value put = new Value();
    private final Value one = new Value();
    private final Value two = new Value();
    private int nowAt;
    private int undoable;
    private int redoable;
    private int inputMany;
    private int knocks;
    private long reckonedMask;

    public Sheetengine() {
        for (int k = 0; k < past.length; k++) {
            past[k] = new Sheets();
        }
    }

    // ---- the input

    public int token(int kind, int a, int b, int c) throws IllegalArgumentException, IllegalStateException {
        if (!Token.isToken(kind, a, b, c)) {
            throw new IllegalArgumentException("there is no such token");
        }
        if (inputMany < 0 || inputMany >= inputTokens.length) {
            throw new IllegalStateException("the input is full");
        }
        inputTokens[inputMany] = Token.made(kind, a, b, c);
        inputMany++;
        return inputMany;
    }

    public int rub(int many) throws IllegalArgumentException {
        if (many < 0) {
            throw new IllegalArgumentException("many is below 0");
        }
        inputMany -= Math.min(many, inputMany);
        return inputMany;
    }

    // ---- changes

    public int enter(int place) throws IllegalArgumentException, IllegalStateException {
        checkPlace(place);
        checkRoom(place);
        int slip = reader.read(inputTokens, 0, inputMany);
        if (slip != NONE) {
            return slip;
        }
        if (now().isGuarded[place]) {
            return REFUSED;
        }
        Sheets next = begin();
        next.putFormula(place, inputTokens, inputMany);
        reckoner.mark(place);
        keep(reckoner.reckon(now(), next));
        inputMany = 0;
        return NONE;
    }

    public int number(int place, int top, int bottom) throws IllegalArgumentException, IllegalStateException {
        checkPlace(place);
        checkFraction(top, bottom);
        checkRoom(place);
        put.setFraction(top, bottom);
        return putConstant(place);
    }

    public int text(int place, int which) throws IllegalArgumentException, IllegalStateException {
        checkPlace(place);
        checkWithin(which, 0, 99);
        checkRoom(place);
        put.setWord(which);
        return putConstant(place);
    }

    public int truth(int place, boolean is) throws IllegalArgumentException, IllegalStateException {
        checkPlace(place);
        checkRoom(place);
        put.setTruth(is);
        return putConstant(place);
    }

    public int clear(int place) throws IllegalArgumentException {
        checkPlace(place);
        if (now().isGuarded[place]) {
            return REFUSED;
        }
        Sheets next = begin();
        next.empty(place);
        reckoner.mark(place);
        return keep(reckoner.reckon(now(), next));
    }

    public int fill(int from, int one, int other) throws IllegalArgumentException {
        checkCorners(one, other);
        checkCorners(from, one);
        int first = firstCorner(one, other);
        int last = lastCorner(one, other);
        if (isFillRefused(from, first, last)) {
            return REFUSED;
        }
        Sheets next = begin();
        int many = 0;
        for (int place = first; place <= last; place++) {
            if (place != from && isWithin(first, last, place)) {
                next.copyCell(from, place);
                reckoner.mark(place);
                many++;
            }
        }
        keep(reckoner.reckon(now(), next));
        return many;
    }

    public String goOn(int first, boolean isDown, int many) throws IllegalArgumentException {
        checkPlace(first);
        checkWithin(many, 1, ROWS - 2);
        int step = isDown ? COLUMNS : 1;
        if (isGoOnRefused(first, isDown, many)) {
            return REFUSED_TEXT;
        }
        Sheets next = begin();
        for (int k = 1; k <= many; k++) {
            int place = first + (k + 1) * step;
            goFurther(first, step, k);
            next.putValue(place, put);
            reckoner.mark(place);
        }
        keep(reckoner.reckon(now(), next));
        return textOf(put);
    }

    public int name(int name, int one, int other) throws IllegalArgumentException {
        checkWithin(name, 0, NAMES - 1);
        if (one != NONE) {
            checkCorners(one, other);
        }
        boolean wasTold = now().isTold(name);
        Sheets next = begin();
        if (one == NONE) {
            next.tellName(name, NONE, NONE);
        } else {
            next.tellName(name, firstCorner(one, other), lastCorner(one, other));
        }
        reckoner.markAll();
        keep(reckoner.reckon(now(), next));
        return wasTold ? 1 : 0;
    }

    public int putIn(int sheet, boolean isColumn, int at) throws IllegalArgumentException {
        checkLine(sheet, isColumn, at);
        if (!now().hasFreeLastLine(sheet, isColumn)) {
            return REFUSED;
        }
        int moved = now().countCells(sheet, isColumn, at, isColumn ? COLUMNS : ROWS);
        shift(sheet, isColumn, at, 1);
        return moved;
    }

    public int takeOut(int sheet, boolean isColumn, int at) throws IllegalArgumentException {
        checkLine(sheet, isColumn, at);
        if (now().hasGuardIn(sheet, isColumn, at)) {
            return REFUSED;
        }
        int went = now().countCells(sheet, isColumn, at, at);
        shift(sheet, isColumn, at, -1);
        return went;
    }

    public int guard(int place, boolean is) throws IllegalArgumentException {
        checkPlace(place);
        boolean was = now().isGuarded[place];
        begin().isGuarded[place] = is;
        keep(0L);
        return was ? 1 : 0;
    }

    public int bound(int place, int least, int greatest) throws IllegalArgumentException {
        checkPlace(place);
        boolean was = now().isBounded[place];
        begin().tellBounds(place, least, greatest);
        keep(0L);
        return was ? 1 : 0;
    }

    public int form(int place, int digits) throws IllegalArgumentException {
        checkPlace(place);
        checkWithin(digits, NONE, 3);
        int was = now().digits[place];
        begin().digits[place] = digits;
        keep(0L);
        return was;
    }

    public String goal(int in, int out, int top, int bottom) throws IllegalArgumentException, IllegalStateException {
        checkPlace(in);
        checkPlace(out);
        checkFraction(top, bottom);
        checkRoom(in);
        put.setWhole(0);
        tryOut(in, out, one);
        put.setWhole(1);
        tryOut(in, out, two);
        if (!seek(top, bottom) || isRefused(in, put)) {
            return REFUSED_TEXT;
        }
        tryOut(in, out, one);
        two.setFraction(top, bottom);
        if (!one.isAlike(two)) {
            return REFUSED_TEXT;
        }
        putConstant(in);
        return textOf(put);
    }

    public int undo() throws IllegalStateException {
        if (undoable <= 0) {
            throw new IllegalStateException("nothing can be undone");
        }
        undoable--;
        redoable++;
        step(past.length - 1);
        return undoable;
    }

    public int redo() throws IllegalStateException {
        if (redoable <= 0) {
            throw new IllegalStateException("nothing can be done again");
        }
        redoable--;
        undoable++;
        step(1);
        return redoable;
    }

    public int knock() {
        knocks++;
        return knocks;
    }

    // ---- what is asked of single places

    public String input() {
        scribe.begin();
        scribe.writeTokens(inputTokens, 0, inputMany, 0);
        return scribe.page.toString();
    }

    public int slip() {
        return reader.read(inputTokens, 0, inputMany);
    }

    public String value(int place) throws IllegalArgumentException {
        checkPlace(place);
        now().fetch(place, one);
        return textOf(one);
    }

    public String formula(int place) throws IllegalArgumentException {
        checkPlace(place);
        scribe.begin();
        writeFormula(place);
        return scribe.page.toString();
    }

    public String shown(int place) throws IllegalArgumentException {
        checkPlace(place);
        scribe.begin();
        writeShown(place);
        return scribe.page.toString();
    }

    public int ofPlace(int place, int what) throws IllegalArgumentException {
        checkPlace(place);
        checkWithin(what, 0, 9);
        return told(place, what);
    }

    public String reads(int place, boolean isBack) throws IllegalArgumentException {
        checkPlace(place);
        Sheets now = now();
        int slot = now.slotAt[place];
        long mask = isBack ? now.readersOf(place) : slot == NONE ? 0L : now.readMask[slot];
        scribe.begin();
        writePlaces(mask);
        return scribe.page.toString();
    }

    public String why(int place) throws IllegalArgumentException {
        checkPlace(place);
        scribe.begin();
        writeWhy(place);
        return scribe.page.toString();
    }

    // ---- what is asked of rows

    public String sorted(int one, int last, int column, boolean isFalling) throws IllegalArgumentException {
        checkRows(one, last, column);
        scribe.begin();
        rows.gather(now(), one, last, column);
        rows.writeSorted(scribe, isFalling);
        return scribe.page.toString();
    }

    public String filtered(int one, int last, int column, int word, int number) throws IllegalArgumentException {
        checkRows(one, last, column);
        checkWithin(word, ALIKE, LESS_OR_ALIKE);
        scribe.begin();
        rows.gather(now(), one, last, column);
        rows.writeFiltered(scribe, word, number);
        return scribe.page.toString();
    }

    public String grouped(int one, int last, int column, int other) throws IllegalArgumentException {
        checkRows(one, last, column);
        checkWithin(other, 0, COLUMNS - 1);
        scribe.begin();
        rows.gather(now(), one, last, column);
        rows.writeGrouped(scribe, now(), other);
        return scribe.page.toString();
    }

    public String whatIf(int in, int out, int from, int step, int many) throws IllegalArgumentException {
        checkPlace(in);
        checkPlace(out);
        checkWithin(from, -9999, 9999);
        checkWithin(step, -9999, 9999);
        checkWithin(many, 1, 8);
        scribe.begin();
        for (int k = 0; k < many; k++) {
            put.setWhole(from + k * step);
            tryOut(in, out, one);
            if (k > 0) {
                scribe.page.append(' ');
            }
            scribe.writeValue(one);
        }
        return scribe.page.toString();
    }

    // ---- all of it

    public String reckoned() {
        scribe.begin();
        writePlaces(reckonedMask);
        return scribe.page.toString();
    }

    public int house(int what) throws IllegalArgumentException {
        checkWithin(what, 0, 9);
        return counted(what);
    }

    public boolean isSound() {
        return holdsAll();
    }

    public long digest() {
        long sum = FIRST_DIGEST;
        for (int what = 0; what <= 9; what++) {
            sum = sum * 31 + counted(what);
        }
        Sheets now = now();
        for (int place = 0; place < PLACES; place++) {
            if (now.slotAt[place] != NONE) {
                sum = digestOf(place, sum);
            }
        }
        scribe.begin();
        scribe.writeTokens(inputTokens, 0, inputMany, 0);
        sum = sum * 31 + scribe.page.length();
        sum = sum * 31 + reader.read(inputTokens, 0, inputMany);
        scribe.begin();
        writePlaces(reckonedMask);
        sum = sum * 31 + scribe.page.length();
        for (int sheet = 0; sheet < SHEETS; sheet++) {
            sum = digestOfRows(sheet, sum);
        }
        return sum * 31 + (holdsAll() ? 1 : 0);
    }

    // ---- places

    private static int rowOf(int place) {
        return place % SHEET_PLACES / COLUMNS;
    }

    private static int columnOf(int place) {
        return place % COLUMNS;
    }

    private static int lineOf(int place, boolean isColumn) {
        return isColumn ? columnOf(place) : rowOf(place);
    }

    private static boolean isPlace(int place) {
        return place >= 0 && place < PLACES;
    }

    private static boolean isOfOneSheet(int one, int other) {
        return one / SHEET_PLACES == other / SHEET_PLACES;
    }

    private static int firstCorner(int one, int other) {
        int sheet = one / SHEET_PLACES;
        int row = Math.min(rowOf(one), rowOf(other));
        return sheet * SHEET_PLACES + row * COLUMNS + Math.min(columnOf(one), columnOf(other));
    }

    private static int lastCorner(int one, int other) {
        int sheet = one / SHEET_PLACES;
        int row = Math.max(rowOf(one), rowOf(other));
        return sheet * SHEET_PLACES + row * COLUMNS + Math.max(columnOf(one), columnOf(other));
    }

    /** Whether a PLACE is in an AREA: its corners are of one SHEET, so rows need not be looked at. */
    private static boolean isWithin(int first, int last, int place) {
        int column = columnOf(place);
        return place >= first && place <= last && column >= columnOf(first) && column <= columnOf(last);
    }

    // ---- what calls may be given

    private static void checkPlace(int place) {
        if (!isPlace(place)) {
            throw new IllegalArgumentException("there is no such place");
        }
    }

    private static void checkCorners(int one, int other) {
        checkPlace(one);
        checkPlace(other);
        if (!isOfOneSheet(one, other)) {
            throw new IllegalArgumentException("the places are of unlike sheets");
        }
    }

    private static void checkWithin(int number, int least, int greatest) {
        if (number < least || number > greatest) {
            throw new IllegalArgumentException("a number is beyond what it may be");
        }
    }

    private static void checkFraction(int top, int bottom) {
        checkWithin(top, -999999, 999999);
        checkWithin(bottom, 1, 999);
    }

    private static void checkLine(int sheet, boolean isColumn, int at) {
        checkWithin(sheet, 0, SHEETS - 1);
        checkWithin(at, 0, (isColumn ? COLUMNS : ROWS) - 1);
    }

    private static void checkRows(int one, int last, int column) {
        checkCorners(one, last);
        checkWithin(rowOf(one), 0, rowOf(last));
        checkWithin(column, 0, COLUMNS - 1);
    }

    private void checkRoom(int place) {
        if (now().slotAt[place] == NONE && now().cells >= MOST_CELLS) {
            throw new IllegalStateException("there are 60 cells");
        }
    }

    // ---- steps

    private Sheets now() {
        return past[nowAt];
    }

    /** A copy of the state now, to be changed and then kept: only what is surely not refused may begin. */
    private Sheets begin() {
        Sheets next = past[(nowAt + 1) % past.length];
        next.copyFrom(now());
        reckoner.unmark();
        return next;
    }

    private int keep(long mask) {
        nowAt = (nowAt + 1) % past.length;
        undoable = Math.min(undoable + 1, MOST_UNDONE);
        redoable = 0;
        reckonedMask = mask;
        return Long.bitCount(mask);
    }

    private void step(int by) {
        nowAt = (nowAt + by) % past.length;
        reckonedMask = now().formulasWithoutRing();
    }

    // ---- parts of changes

    private boolean isRefused(int place, Value constant) {
        return now().isGuarded[place] || isBeyond(place, constant);
    }

    private boolean isBeyond(int place, Value constant) {
        Sheets now = now();
        return now.isBounded[place] && constant.kind == NUMBER
                && !slate.isBetween(constant, now.least[place], now.greatest[place]);
    }

    private int putConstant(int place) {
        if (isRefused(place, put)) {
            return REFUSED;
        }
        Sheets next = begin();
        next.putValue(place, put);
        reckoner.mark(place);
        return keep(reckoner.reckon(now(), next));
    }

    private boolean isFillRefused(int from, int first, int last) {
        Sheets now = now();
        boolean isCell = now.slotAt[from] != NONE;
        int cells = now.cells;
        now.fetch(from, put);
        if (now.isFormula(from)) {
            put.setNothing();
        }
        for (int place = first; place <= last; place++) {
            if (place != from && isWithin(first, last, place)) {
                if (isRefused(place, put)) {
                    return true;
                }
                cells += isCell && now.slotAt[place] == NONE ? 1 : 0;
            }
        }
        return cells > MOST_CELLS;
    }

    private boolean isGoOnRefused(int first, boolean isDown, int many) {
        Sheets now = now();
        int step = isDown ? COLUMNS : 1;
        if (lineOf(first, !isDown) + 1 + many >= (isDown ? ROWS : COLUMNS)) {
            return true;
        }
        if (!now.holdsConstantNumber(first) || !now.holdsConstantNumber(first + step)) {
            return true;
        }
        int cells = now.cells;
        for (int k = 1; k <= many; k++) {
            int place = first + (k + 1) * step;
            goFurther(first, step, k);
            if (put.kind != NUMBER || isRefused(place, put)) {
                return true;
            }
            cells += now.slotAt[place] == NONE ? 1 : 0;
        }
        return cells > MOST_CELLS;
    }

    /** Puts the k-th NUMBER behind two into put: reckoned from those two, so that none between need be short. */
    private void goFurther(int first, int step, int k) {
        now().fetch(first, one);
        now().fetch(first + step, two);
        slate.load(two, slate.total);
        slate.load(one, slate.other);
        slate.subtract(slate.total, slate.other);
        slate.other.setWhole(k);
        slate.multiply(slate.total, slate.other);
        slate.load(two, slate.other);
        slate.add(slate.total, slate.other);
        slate.store(slate.total, put);
    }

    private void shift(int sheet, boolean isColumn, int at, int by) {
        Sheets next = begin();
        next.shiftFrom(now(), sheet, isColumn, at, by);
        reckoner.markAll();
        keep(reckoner.reckon(now(), next));
    }

    /** The VALUE that out would have, if the constant put stood at in. */
    private void tryOut(int in, int out, Value result) {
        trial.copyFrom(now());
        trial.putValue(in, put);
        reckoner.unmark();
        reckoner.mark(in);
        reckoner.reckon(now(), trial);
        trial.fetch(out, result);
    }

    /** With f(0) in one and f(1) in two: whether there is an x for the wanted NUMBER, which then is put. */
    private boolean seek(int top, int bottom) {
        if (one.kind != NUMBER || two.kind != NUMBER || one.isAlike(two)) {
            return false;
        }
        put.setFraction(top, bottom);
        slate.load(put, slate.total);
        slate.load(one, slate.other);
        slate.subtract(slate.total, slate.other);
        slate.load(two, slate.rise);
        slate.subtract(slate.rise, slate.other);
        slate.divide(slate.total, slate.rise);
        slate.store(slate.total, put);
        return put.kind == NUMBER;
    }

    // ---- parts of answers

    private String textOf(Value told) {
        scribe.begin();
        scribe.writeValue(told);
        return scribe.page.toString();
    }

    private void writeFormula(int place) {
        Sheets now = now();
        int slot = now.slotAt[place];
        if (slot != NONE && now.tokenMany[slot] > 0) {
            scribe.page.append('=');
            scribe.writeTokens(now.tokens, slot * MOST_TOKENS, now.tokenMany[slot], place / SHEET_PLACES);
        } else {
            now.fetch(place, one);
            scribe.writeValue(one);
        }
    }

    private void writeShown(int place) {
        Sheets now = now();
        now.fetch(place, one);
        if (one.kind == NUMBER && now.digits[place] != NONE) {
            scribe.writeRounded(one, now.digits[place]);
        } else {
            scribe.writeValue(one);
        }
    }

    private void writeWhy(int place) {
        Sheets now = now();
        writeFormula(place);
        scribe.page.append(" = ");
        now.fetch(place, one);
        scribe.writeValue(one);
        int slot = now.slotAt[place];
        long mask = slot == NONE ? 0L : now.readMask[slot];
        for (int other = 0; other < PLACES && mask != 0; other++) {
            if (now.isIn(mask, other)) {
                scribe.page.append("; ");
                scribe.page.append(other);
                scribe.page.append(':');
                now.fetch(other, one);
                scribe.writeValue(one);
            }
        }
    }

    private void writePlaces(long mask) {
        Sheets now = now();
        boolean isFirst = true;
        for (int place = 0; place < PLACES && mask != 0; place++) {
            if (now.isIn(mask, place)) {
                if (!isFirst) {
                    scribe.page.append(' ');
                }
                scribe.page.append(place);
                isFirst = false;
            }
        }
    }

    private int told(int place, int what) {
        Sheets now = now();
        int slot = now.slotAt[place];
        switch (what) {
            case 0:
                return now.kindAt(place);
            case 1:
                return now.isFormula(place) ? 1 : 0;
            case 2:
                return slot == NONE ? 0 : now.level[slot];
            case 3:
                return now.isIn(now.rings, place) ? 1 : 0;
            case 4:
                return slot == NONE ? 0 : Long.bitCount(now.readMask[slot]);
            case 5:
                return Long.bitCount(now.readersOf(place));
            case 6:
                return Long.bitCount(now.hangersOn(place));
            case 7:
                return now.isGuarded[place] ? 1 : 0;
            case 8:
                return now.digits[place];
            default:
                return now.isIn(reckonedMask, place) ? 1 : 0;
        }
    }

    private int counted(int what) {
        Sheets now = now();
        switch (what) {
            case 0:
                return now.cells;
            case 1:
                return now.countFormulas();
            case 2:
                return now.countFaults();
            case 3:
                return Long.bitCount(now.rings);
            case 4:
                return now.greatestLevel();
            case 5:
                return now.countNames();
            case 6:
                return now.countGuards();
            case 7:
                return undoable;
            case 8:
                return redoable;
            default:
                return knocks;
        }
    }

    private long digestOf(int place, long before) {
        long sum = before * 31 + place;
        for (int what = 0; what <= 9; what++) {
            sum = sum * 31 + told(place, what);
        }
        scribe.begin();
        now().fetch(place, one);
        scribe.writeValue(one);
        sum = sum * 31 + scribe.page.length();
        scribe.begin();
        writeFormula(place);
        sum = sum * 31 + scribe.page.length();
        scribe.begin();
        writeShown(place);
        sum = sum * 31 + scribe.page.length();
        scribe.begin();
        writeWhy(place);
        return sum * 31 + scribe.page.length();
    }

    private long digestOfRows(int sheet, long before) {
        int first = sheet * SHEET_PLACES;
        int last = first + SHEET_PLACES - 1;
        scribe.begin();
        rows.gather(now(), first, last, 0);
        rows.writeSorted(scribe, false);
        long sum = before * 31 + scribe.page.length();
        scribe.begin();
        rows.gather(now(), first, last, 0);
        rows.writeGrouped(scribe, now(), 1);
        return sum * 31 + scribe.page.length();
    }

    /** What isSound() tells; it reckons here and not in a part of its own, so that calls stay eight deep. */
    private boolean holdsAll() {
        Sheets now = now();
        trial.copyFrom(now);
        reckoner.markAll();
        reckoner.reckon(now, trial);
        return trial.isAlikeAll(now) && now.hasRingsRight() && now.hasLevelsRising()
                && keepsFormulas(0) && keepsFormulas(1);
    }

    private boolean keepsFormulas(int sheet) {
        Sheets now = now();
        if (!now.hasFreeLastLine(sheet, false)) {
            return true;
        }
        trial.shiftFrom(now, sheet, false, 3, 1);
        spare.shiftFrom(trial, sheet, false, 3, -1);
        return spare.hasFormulasOf(now);
    }

    /** TOKENS as numbers: the kind in the lowest three bits, above it HELD and two corners, or a number. */
    private static final class Token {
        static final int OF_NUMBER = 0;
        static final int OF_TEXT = 1;
        static final int OF_TRUTH = 2;
        static final int OF_PLACE = 3;
        static final int OF_AREA = 4;
        static final int OF_NAME = 5;
        static final int OF_WORD = 6;
        static final int OF_GONE = 7;
        static final int ROW_HELD = 1;
        static final int COLUMN_HELD = 2;
        /** Marks an operand that stands as an AREA in the order in which it is reckoned. */
        static final int AS_AREA = 1 << 28;
        private static final int LEAST_NUMBER = -9999;
        private static final int MOST_NUMBER = 9999;
        private static final int OFFSET = 10000;

        static boolean isToken(int kind, int a, int b, int c) {
            switch (kind) {
                case OF_NUMBER:
                    return a >= LEAST_NUMBER && a <= MOST_NUMBER;
                case OF_TEXT:
                    return a >= 0 && a <= 99;
                case OF_TRUTH:
                    return a == 0 || a == 1;
                case OF_PLACE:
                    return isPlace(a) && b >= 0 && b <= 3;
                case OF_AREA:
                    return isPlace(a) && isPlace(b) && isOfOneSheet(a, b) && c >= 0 && c <= 3;
                case OF_NAME:
                    return a >= 0 && a < NAMES;
                case OF_WORD:
                    return a >= PLUS && a <= ISFAULT;
                default:
                    return false;
            }
        }

        static int made(int kind, int a, int b, int c) {
            switch (kind) {
                case OF_NUMBER:
                    return joined(kind, a + OFFSET);
                case OF_PLACE:
                    return ofCorners(kind, a, a, b);
                case OF_AREA:
                    return ofCorners(kind, firstCorner(a, b), lastCorner(a, b), c);
                default:
                    return joined(kind, a);
            }
        }

        static int joined(int kind, int load) {
            return load << 3 | kind;
        }

        static int ofCorners(int kind, int first, int last, int held) {
            return joined(kind, first << 11 | last << 2 | held);
        }

        static int kindOf(int token) {
            return token & 7;
        }

        /** The number, text, truth, name or word of a TOKEN. */
        static int loadOf(int token) {
            int load = (token & ~AS_AREA) >> 3;
            return (token & 7) == OF_NUMBER ? load - OFFSET : load;
        }

        static int firstOf(int token) {
            return token >> 14 & 511;
        }

        static int lastOf(int token) {
            return token >> 5 & 511;
        }

        static int heldOf(int token) {
            return token >> 3 & 3;
        }

        static boolean hasPlaces(int token) {
            int kind = token & 7;
            return kind == OF_PLACE || kind == OF_AREA;
        }

        /** The TOKEN in a formula that is filled so many rows down and columns to the right. */
        static int moved(int token, int down, int right) {
            if (!hasPlaces(token)) {
                return token;
            }
            int held = heldOf(token);
            int rows = (held & ROW_HELD) != 0 ? 0 : down;
            int columns = (held & COLUMN_HELD) != 0 ? 0 : right;
            int first = movedPlace(firstOf(token), rows, columns);
            int last = movedPlace(lastOf(token), rows, columns);
            if (first == NONE || last == NONE) {
                return joined(OF_GONE, 0);
            }
            return ofCorners(kindOf(token), first, last, held);
        }

        private static int movedPlace(int place, int down, int right) {
            int row = rowOf(place) + down;
            int column = columnOf(place) + right;
            boolean isBeyond = row < 0 || row >= ROWS || column < 0 || column >= COLUMNS;
            return isBeyond ? NONE : place + down * COLUMNS + right;
        }

        /** The TOKEN when a line at one number is put in (by is 1) or taken out (by is -1). */
        static int shifted(int token, int sheet, boolean isColumn, int at, int by) {
            if (!hasPlaces(token)) {
                return token;
            }
            int first = firstOf(token);
            int last = lastOf(token);
            if (isTaken(first, last, sheet, isColumn, at, by)) {
                return joined(OF_GONE, 0);
            }
            int shiftedFirst = shiftedFirst(first, sheet, isColumn, at, by);
            int shiftedLast = shiftedLast(last, sheet, isColumn, at, by);
            return ofCorners(kindOf(token), shiftedFirst, shiftedLast, heldOf(token));
        }

        /** Whether an AREA is of the one line alone that is taken out. */
        static boolean isTaken(int first, int last, int sheet, boolean isColumn, int at, int by) {
            return by < 0 && first / SHEET_PLACES == sheet
                    && lineOf(first, isColumn) == at && lineOf(last, isColumn) == at;
        }

        /** A first corner in the line that is taken out stays: the next line comes there. */
        static int shiftedFirst(int first, int sheet, boolean isColumn, int at, int by) {
            int line = lineOf(first, isColumn);
            boolean isMoved = by > 0 ? line >= at : line > at;
            return isMoved && first / SHEET_PLACES == sheet ? first + by * (isColumn ? 1 : COLUMNS) : first;
        }

        static int shiftedLast(int last, int sheet, boolean isColumn, int at, int by) {
            boolean isMoved = lineOf(last, isColumn) >= at;
            return isMoved && last / SHEET_PLACES == sheet ? last + by * (isColumn ? 1 : COLUMNS) : last;
        }
    }

    /**
     * One VALUE. What its parts do not need is 0, so that two VALUES are alike just if all of them are.
     * A NUMBER: tag its sign, four limbs of 30 bits of its top, four of its bottom, low ones first.
     * A TEXT: tag its length, four signs in each part. A TRUTH: tag 1 or 0. A FAULT: tag which.
     * An AREA: tag its fault or NONE, and its corners.
     */
    private static final class Value {
        static final int LIMBS = 4;
        static final int PARTS = 2 * LIMBS;
        static final int SIZE = PARTS + 2;
        static final int MOST_SIGNS = 20;

        final int[] part = new int[PARTS];
        int kind;
        int tag;

        void setNothing() {
            set(EMPTY, 0);
        }

        void setFault(int fault) {
            set(FAULT, fault);
        }

        void setTruth(boolean is) {
            set(TRUTH, is ? 1 : 0);
        }

        void setArea(int first, int last, int fault) {
            set(AREA, fault);
            part[0] = first;
            part[1] = last;
        }

        /** A NUMBER below 2 to the 60, as all whole ones are that are put or told. */
        void setWhole(long whole) {
            long size = Math.abs(whole);
            set(NUMBER, Long.compare(whole, 0L));
            part[0] = (int) (size & Natural.LIMB_MASK);
            part[1] = (int) (size >> Natural.LIMB_BITS & Natural.LIMB_MASK);
            part[LIMBS] = 1;
        }

        /** A NUMBER; both its parts are below 2 to the 30, and the bottom is above 0. */
        void setFraction(int top, int bottom) {
            int common = greatestCommon(Math.abs(top), bottom);
            set(NUMBER, Integer.compare(top, 0));
            part[0] = common > 0 ? Math.abs(top) / common : 0;
            part[LIMBS] = common > 0 ? bottom / common : 1;
        }

        /** The TEXT "w" and a number of one or two digits. */
        void setWord(int which) {
            int tens = which / 10;
            set(TEXT, 0);
            addSign('w');
            if (tens > 0) {
                addSign((char) ('0' + tens));
            }
            addSign((char) ('0' + which % 10));
        }

        /** A TEXT of what stands on a page, or the fault if that is too much. */
        void setSigns(StringBuilder page) {
            int many = page.length();
            if (many > MOST_SIGNS) {
                setFault(LONG);
                return;
            }
            set(TEXT, 0);
            for (int k = 0; k < many; k++) {
                addSign(page.charAt(k));
            }
        }

        char signAt(int k) {
            return k >= 0 && k < MOST_SIGNS ? (char) (part[k >> 2] >> ((k & 3) << 3) & 255) : 0;
        }

        void copy(Value other) {
            set(other.kind, other.tag);
            for (int k = 0; k < PARTS; k++) {
                part[k] = other.part[k];
            }
        }

        void readFrom(int[] store, int at) {
            if (at >= 0 && at + SIZE <= store.length) {
                set(store[at], store[at + 1]);
                for (int k = 0; k < PARTS; k++) {
                    part[k] = store[at + 2 + k];
                }
            }
        }

        void writeTo(int[] store, int at) {
            if (at >= 0 && at + SIZE <= store.length) {
                store[at] = kind;
                store[at + 1] = tag;
                for (int k = 0; k < PARTS; k++) {
                    store[at + 2 + k] = part[k];
                }
            }
        }

        boolean isAlike(Value other) {
            boolean is = kind == other.kind && tag == other.tag;
            for (int k = 0; k < PARTS && is; k++) {
                is = part[k] == other.part[k];
            }
            return is;
        }

        /** Where an operand counts, an EMPTY place is 0; but for its bottom, all of it is 0 already. */
        void countEmptyAsZero() {
            if (kind == EMPTY) {
                kind = NUMBER;
                part[LIMBS] = 1;
            }
        }

        /** The VALUE as a whole NUMBER from 1 to a greatest one, or NONE. */
        int wholeUpTo(int greatest) {
            boolean isWhole = kind == NUMBER && tag > 0;
            for (int k = 1; k < PARTS && isWhole; k++) {
                isWhole = part[k] == (k == LIMBS ? 1 : 0);
            }
            return isWhole && part[0] <= greatest ? part[0] : NONE;
        }

        void set(int newKind, int newTag) {
            kind = newKind;
            tag = newTag;
            for (int k = 0; k < PARTS; k++) {
                part[k] = 0;
            }
        }

        private void addSign(char sign) {
            if (tag >= 0 && tag < MOST_SIGNS) {
                part[tag >> 2] |= (sign & 255) << ((tag & 3) << 3);
                tag++;
            }
        }

        private static int greatestCommon(int one, int other) {
            int big = one;
            int small = other;
            for (int k = 0; k < 64 && small > 0; k++) {
                int rest = big % small;
                big = small;
                small = rest;
            }
            return big;
        }
    }

    /**
     * A natural number, exactly: limbs of 30 bits, low ones first; limbs that are not in use are 0.
     * Its methods call no other ones: they stand at the end of the longest chains of calls.
     */
    private static final class Natural {
        /** The bottoms of 61 NUMBERS, of 120 bits each, can come to 244 limbs; what is added on the way needs few more. */
        static final int MOST_LIMBS = 272;
        static final int LIMB_BITS = 30;
        static final int LIMB_MASK = (1 << LIMB_BITS) - 1;
        static final int HIGHEST_BIT = 1 << LIMB_BITS - 1;
        private static final int LONG_LIMBS = 3;

        final int[] limb = new int[MOST_LIMBS];
        int many;

        void setLong(long number) {
            long rest = number;
            for (int k = 0; k < many || k < LONG_LIMBS; k++) {
                limb[k] = (int) (rest & LIMB_MASK);
                rest >>= LIMB_BITS;
            }
            many = LONG_LIMBS;
            while (many > 0 && limb[many - 1] == 0) {
                many--;
            }
        }

        void setParts(int[] part, int from) {
            for (int k = 0; k < many || k < Value.LIMBS; k++) {
                limb[k] = k < Value.LIMBS && from >= 0 && from + k < part.length ? part[from + k] : 0;
            }
            many = Value.LIMBS;
            while (many > 0 && limb[many - 1] == 0) {
                many--;
            }
        }

        void getParts(int[] part, int from) {
            for (int k = 0; k < Value.LIMBS && from >= 0 && from + k < part.length; k++) {
                part[from + k] = limb[k];
            }
        }

        void copy(Natural other) {
            for (int k = 0; k < many || k < other.many; k++) {
                limb[k] = other.limb[k];
            }
            many = other.many;
        }

        boolean isZero() {
            return many == 0;
        }

        boolean isOne() {
            return many == 1 && limb[0] == 1;
        }

        int compareWith(Natural other) {
            int result = many - other.many;
            for (int k = many - 1; k >= 0 && result == 0; k--) {
                result = limb[k] - other.limb[k];
            }
            return result < 0 ? -1 : result > 0 ? 1 : 0;
        }

        /** This becomes the sum of two, of which it may be one. */
        void setSum(Natural one, Natural other) {
            int length = one.many > other.many ? one.many : other.many;
            int carry = 0;
            for (int k = 0; k < MOST_LIMBS && (k < length || k < many || carry > 0); k++) {
                int sum = one.limb[k] + other.limb[k] + carry;
                limb[k] = sum & LIMB_MASK;
                carry = sum >>> LIMB_BITS;
            }
            many = length < MOST_LIMBS && limb[length] > 0 ? length + 1 : length;
        }

        /** This becomes what a great one has more than a small one; it may be one of them. */
        void setDifference(Natural great, Natural small) {
            int length = great.many;
            int borrow = 0;
            for (int k = 0; k < length || k < many; k++) {
                int rest = great.limb[k] - small.limb[k] - borrow;
                limb[k] = rest & LIMB_MASK;
                borrow = rest < 0 ? 1 : 0;
            }
            many = length;
            while (many > 0 && limb[many - 1] == 0) {
                many--;
            }
        }

        /** This becomes the product of two, of which it may be none. */
        void setProduct(Natural one, Natural other) {
            for (int k = 0; k < many; k++) {
                limb[k] = 0;
            }
            many = one.many + other.many > MOST_LIMBS ? 0 : one.many + other.many;
            for (int i = 0; i < one.many && i < many; i++) {
                long carry = 0;
                for (int j = 0; j < other.many && i + j < many; j++) {
                    long sum = (long) one.limb[i] * other.limb[j] + limb[i + j] + carry;
                    limb[i + j] = (int) (sum & LIMB_MASK);
                    carry = sum >> LIMB_BITS;
                }
                if (i + other.many < many) {
                    limb[i + other.many] = (int) carry;
                }
            }
            while (many > 0 && limb[many - 1] == 0) {
                many--;
            }
        }

        /** Divides this by a small number above 0, and tells the rest. */
        int divideSmall(int by) {
            long rest = 0;
            for (int k = many - 1; k >= 0 && by > 0; k--) {
                long over = rest << LIMB_BITS | limb[k];
                limb[k] = (int) (over / by);
                rest = over % by;
            }
            while (many > 0 && limb[many - 1] == 0) {
                many--;
            }
            return (int) rest;
        }

        /**
         * Long division: the rest stays in over. A limb of the quotient is guessed from the leading 60 bits
         * over the leading 30 of the divisor, both shifted so that its highest bit is set: then the guess is
         * never too small, and at most 2 too great.
         */
        static void divide(Natural over, Natural under, Natural quotient) {
            int size = under.many;
            int length = over.many;
            for (int k = 0; k < quotient.many; k++) {
                quotient.limb[k] = 0;
            }
            quotient.many = size == 0 || length < size ? 0 : length - size + 1;
            if (quotient.many == 0) {
                return;
            }
            int shift = 0;
            while (shift < LIMB_BITS - 1 && under.limb[size - 1] << shift < HIGHEST_BIT) {
                shift++;
            }
            int below = LIMB_BITS - shift;
            long lead = (long) under.limb[size - 1] << shift | (size > 1 ? under.limb[size - 2] >> below : 0);
            for (int at = length - size; at >= 0 && lead > 0; at--) {
                int top = at + size;
                long high = top < length ? over.limb[top] : 0;
                long middle = over.limb[top - 1];
                long low = top > 1 ? over.limb[top - 2] : 0;
                long leading = (high << shift | middle >> below) << LIMB_BITS
                        | (middle << shift | low >> below) & LIMB_MASK;
                long guess = leading / lead;
                guess = guess > LIMB_MASK ? LIMB_MASK : guess;
                long borrow = 0;
                for (int k = 0; k < size; k++) {
                    long rest = over.limb[at + k] - guess * under.limb[k] - borrow;
                    over.limb[at + k] = (int) (rest & LIMB_MASK);
                    borrow = -(rest >> LIMB_BITS);
                }
                for (long left = high - borrow; left < 0 && guess > 0; guess--) {
                    int carry = 0;
                    for (int k = 0; k < size; k++) {
                        int sum = over.limb[at + k] + under.limb[k] + carry;
                        over.limb[at + k] = sum & LIMB_MASK;
                        carry = sum >>> LIMB_BITS;
                    }
                    left += carry;
                }
                if (top < length) {
                    over.limb[top] = 0;
                }
                quotient.limb[at] = (int) guess;
            }
            while (over.many > 0 && over.limb[over.many - 1] == 0) {
                over.many--;
            }
            while (quotient.many > 0 && quotient.limb[quotient.many - 1] == 0) {
                quotient.many--;
            }
        }
    }

    /** A fraction: its sign (0 only of 0), and top and bottom as natural numbers. */
    private static final class Ratio {
        final Natural top = new Natural();
        final Natural bottom = new Natural();
        int sign;

        void setWhole(long whole) {
            sign = Long.compare(whole, 0L);
            top.setLong(Math.abs(whole));
            bottom.setLong(1L);
        }
    }

    /** Where fractions are reckoned exactly, in lowest terms, however long they come to be on the way. */
    private static final class Slate {
        /** Each two steps of a search for a common divisor halve the number at least. */
        private static final int MOST_STEPS = 2 * Natural.MOST_LIMBS * Natural.LIMB_BITS;

        final Ratio total = new Ratio();
        final Ratio other = new Ratio();
        final Ratio rise = new Ratio();
        private final Natural common = new Natural();
        private final Natural shared = new Natural();
        private final Natural rest = new Natural();
        private final Natural quotient = new Natural();
        private final Natural left = new Natural();
        private final Natural right = new Natural();
        private final Natural leftPart = new Natural();
        private final Natural rightPart = new Natural();

        /** A NUMBER as a fraction. */
        void load(Value from, Ratio into) {
            into.sign = from.tag;
            into.top.setParts(from.part, 0);
            into.bottom.setParts(from.part, Value.LIMBS);
        }

        /** A fraction in lowest terms as a VALUE: a NUMBER, or the fault if it is too long for one. */
        void store(Ratio from, Value into) {
            if (from.top.many > Value.LIMBS || from.bottom.many > Value.LIMBS) {
                into.setFault(LONG);
                return;
            }
            into.set(NUMBER, from.sign);
            from.top.getParts(into.part, 0);
            from.bottom.getParts(into.part, Value.LIMBS);
        }

        void add(Ratio sum, Ratio more) {
            findCommon(sum.bottom, more.bottom);
            shared.copy(common);
            divideBy(shared, sum.bottom, leftPart);
            divideBy(shared, more.bottom, rightPart);
            left.setProduct(sum.top, rightPart);
            right.setProduct(more.top, leftPart);
            addSigned(sum, more.sign);
            if (sum.sign == 0) {
                sum.setWhole(0L);
                return;
            }
            // Only what the bottoms shared can still be common to the new top and bottom.
            findCommon(left, shared);
            divideBy(common, left, sum.top);
            divideBy(common, sum.bottom, quotient);
            sum.bottom.setProduct(quotient, rightPart);
        }

        void subtract(Ratio rest, Ratio less) {
            less.sign = -less.sign;
            add(rest, less);
            less.sign = -less.sign;
        }

        void multiply(Ratio product, Ratio by) {
            multiply(product, by.sign, by.top, by.bottom);
        }

        /** The divisor is not 0. */
        void divide(Ratio quotient, Ratio by) {
            multiply(quotient, by.sign, by.bottom, by.top);
        }

        int compare(Ratio one, Ratio other) {
            if (one.sign != other.sign) {
                return Integer.compare(one.sign, other.sign);
            }
            left.setProduct(one.top, other.bottom);
            right.setProduct(other.top, one.bottom);
            return one.sign * left.compareWith(right);
        }

        /** The order of two NUMBERS, of two TEXTS or of two TRUTHS. */
        int order(Value one, Value two) {
            if (one.kind == NUMBER) {
                load(one, total);
                load(two, other);
                return compare(total, other);
            }
            int result = 0;
            for (int k = 0; one.kind == TEXT && k < Value.MOST_SIGNS && result == 0; k++) {
                result = Integer.compare(one.signAt(k), two.signAt(k));
            }
            return one.kind == TRUTH ? Integer.compare(one.tag, two.tag) : result;
        }

        boolean isBetween(Value number, int least, int greatest) {
            load(number, total);
            other.setWhole(least);
            boolean isBelow = compare(total, other) < 0;
            other.setWhole(greatest);
            return !isBelow && compare(total, other) <= 0;
        }

        /** Both parts are in lowest terms: what is common stands crosswise alone. */
        private void multiply(Ratio product, int sign, Natural top, Natural bottom) {
            product.sign *= sign;
            if (product.sign == 0) {
                product.setWhole(0L);
                return;
            }
            findCommon(product.top, bottom);
            divideBy(common, product.top, left);
            divideBy(common, bottom, rightPart);
            findCommon(product.bottom, top);
            divideBy(common, product.bottom, leftPart);
            divideBy(common, top, right);
            product.top.setProduct(left, right);
            product.bottom.setProduct(leftPart, rightPart);
        }

        /** Adds the tops left and right by their signs, into left and the sign of the sum. */
        private void addSigned(Ratio sum, int sign) {
            int order = left.compareWith(right);
            if (sum.sign * sign >= 0) {
                left.setSum(left, right);
                sum.sign = sum.sign == 0 ? sign : sum.sign;
            } else if (order >= 0) {
                left.setDifference(left, right);
                sum.sign = order == 0 ? 0 : sum.sign;
            } else {
                left.setDifference(right, left);
                sum.sign = sign;
            }
        }

        /** The greatest number that divides both, into common. */
        private void findCommon(Natural one, Natural two) {
            Natural big = common;
            Natural small = rest;
            big.copy(one);
            small.copy(two);
            for (int k = 0; k < MOST_STEPS && !small.isZero(); k++) {
                Natural.divide(big, small, quotient);
                Natural spared = big;
                big = small;
                small = spared;
            }
            if (big != common) {
                common.copy(big);
            }
        }

        private void divideBy(Natural by, Natural number, Natural result) {
            if (by.isOne()) {
                result.copy(number);
                return;
            }
            rest.copy(number);
            Natural.divide(rest, by, result);
        }
    }

    /**
     * One state of both SHEETS. CELLS stand in slots, one more than there may be CELLS, since whatIf() puts
     * one more; a set of slots is the bits of a long.
     */
    private static final class Sheets {
        private static final int SLOTS = MOST_CELLS + 1;

        final int[] slotAt = new int[PLACES];
        final int[] placeOf = new int[SLOTS];
        /** How many TOKENS the formula in a slot has; 0 for a constant. */
        final int[] tokenMany = new int[SLOTS];
        final int[] tokens = new int[SLOTS * MOST_TOKENS];
        /** The VALUES of CELLS; that of a constant is what was put. */
        final int[] values = new int[SLOTS * Value.SIZE];
        final boolean[] isGuarded = new boolean[PLACES];
        final boolean[] isBounded = new boolean[PLACES];
        final int[] least = new int[PLACES];
        final int[] greatest = new int[PLACES];
        final int[] digits = new int[PLACES];
        final int[] nameFirst = new int[NAMES];
        final int[] nameLast = new int[NAMES];
        /** What tie() tells: the CELLS that one READS, the CELLS that it HANGS ON, and LEVELS. */
        final long[] readMask = new long[SLOTS];
        final long[] hangMask = new long[SLOTS];
        final int[] level = new int[SLOTS];
        long rings;
        int cells;

        Sheets() {
            for (int place = 0; place < PLACES; place++) {
                slotAt[place] = NONE;
                digits[place] = NONE;
            }
            for (int slot = 0; slot < SLOTS; slot++) {
                placeOf[slot] = NONE;
            }
            for (int k = 0; k < NAMES; k++) {
                nameFirst[k] = NONE;
                nameLast[k] = NONE;
            }
        }

        void copyFrom(Sheets other) {
            System.arraycopy(other.slotAt, 0, slotAt, 0, PLACES);
            System.arraycopy(other.placeOf, 0, placeOf, 0, SLOTS);
            System.arraycopy(other.tokenMany, 0, tokenMany, 0, SLOTS);
            System.arraycopy(other.tokens, 0, tokens, 0, SLOTS * MOST_TOKENS);
            System.arraycopy(other.values, 0, values, 0, SLOTS * Value.SIZE);
            System.arraycopy(other.least, 0, least, 0, PLACES);
            System.arraycopy(other.greatest, 0, greatest, 0, PLACES);
            System.arraycopy(other.digits, 0, digits, 0, PLACES);
            System.arraycopy(other.nameFirst, 0, nameFirst, 0, NAMES);
            System.arraycopy(other.nameLast, 0, nameLast, 0, NAMES);
            for (int place = 0; place < PLACES; place++) {
                isGuarded[place] = other.isGuarded[place];
                isBounded[place] = other.isBounded[place];
            }
            for (int slot = 0; slot < SLOTS; slot++) {
                readMask[slot] = other.readMask[slot];
                hangMask[slot] = other.hangMask[slot];
                level[slot] = other.level[slot];
            }
            rings = other.rings;
            cells = other.cells;
        }

        // -- what stands at a PLACE

        private int slotOf(int place) {
            return isPlace(place) ? slotAt[place] : NONE;
        }

        void fetch(int place, Value into) {
            int slot = slotOf(place);
            into.setNothing();
            if (slot != NONE) {
                into.readFrom(values, slot * Value.SIZE);
            }
        }

        int kindAt(int place) {
            int slot = slotOf(place);
            return slot == NONE ? EMPTY : values[slot * Value.SIZE];
        }

        boolean isFormula(int place) {
            int slot = slotOf(place);
            return slot != NONE && tokenMany[slot] > 0;
        }

        boolean holdsConstantNumber(int place) {
            return kindAt(place) == NUMBER && !isFormula(place);
        }

        /** Whether the CELL at a PLACE, if there is one, is in a set. */
        boolean isIn(long mask, int place) {
            int slot = slotOf(place);
            return slot != NONE && (mask >> slot & 1) != 0;
        }

        /** Whether a CELL of an AREA stands at a PLACE. */
        boolean hasCell(int first, int last, int place) {
            return slotOf(place) != NONE && isWithin(first, last, place);
        }

        /** Whether the VALUE at a PLACE is alike with the one there in another state. */
        boolean isAlikeAt(int place, Sheets other) {
            int slot = slotOf(place);
            int otherSlot = other.slotOf(place);
            boolean is = (slot == NONE) == (otherSlot == NONE);
            for (int k = 0; slot != NONE && k < Value.SIZE && is; k++) {
                is = values[slot * Value.SIZE + k] == other.values[otherSlot * Value.SIZE + k];
            }
            return is;
        }

        boolean isAlikeAll(Sheets other) {
            boolean is = true;
            for (int place = 0; place < PLACES && is; place++) {
                is = isAlikeAt(place, other);
            }
            return is;
        }

        // -- putting

        void putValue(int place, Value constant) {
            int slot = claim(place);
            if (slot != NONE) {
                tokenMany[slot] = 0;
                constant.writeTo(values, slot * Value.SIZE);
            }
        }

        void putFormula(int place, int[] from, int many) {
            int slot = claim(place);
            if (slot != NONE) {
                tokenMany[slot] = Math.min(many, MOST_TOKENS);
                for (int k = 0; k < tokenMany[slot] && k < from.length; k++) {
                    tokens[slot * MOST_TOKENS + k] = from[k];
                }
            }
        }

        void empty(int place) {
            int slot = slotOf(place);
            if (slot != NONE) {
                placeOf[slot] = NONE;
                tokenMany[slot] = 0;
                slotAt[place] = NONE;
                cells--;
            }
        }

        /** Fills one PLACE from another one of its SHEET. */
        void copyCell(int from, int place) {
            int source = slotOf(from);
            int slot = source == NONE ? NONE : claim(place);
            if (slot == NONE) {
                empty(place);
                return;
            }
            int down = rowOf(place) - rowOf(from);
            int right = columnOf(place) - columnOf(from);
            System.arraycopy(values, source * Value.SIZE, values, slot * Value.SIZE, Value.SIZE);
            tokenMany[slot] = tokenMany[source];
            for (int k = 0; k < tokenMany[slot]; k++) {
                int token = tokens[source * MOST_TOKENS + k];
                tokens[slot * MOST_TOKENS + k] = Token.moved(token, down, right);
            }
        }

        void tellBounds(int place, int newLeast, int newGreatest) {
            isBounded[place] = newLeast <= newGreatest;
            least[place] = newLeast;
            greatest[place] = newGreatest;
        }

        void tellName(int which, int first, int last) {
            nameFirst[which] = first;
            nameLast[which] = last;
        }

        boolean isTold(int which) {
            return which >= 0 && which < NAMES && nameFirst[which] != NONE;
        }

        private int claim(int place) {
            int slot = slotOf(place);
            for (int k = 0; slot == NONE && isPlace(place) && k < SLOTS; k++) {
                if (placeOf[k] == NONE) {
                    slot = k;
                    placeOf[k] = place;
                    slotAt[place] = k;
                    cells++;
                }
            }
            return slot;
        }

        // -- lines put in and taken out

        boolean hasFreeLastLine(int sheet, boolean isColumn) {
            int last = (isColumn ? COLUMNS : ROWS) - 1;
            for (int place = sheet * SHEET_PLACES; place < (sheet + 1) * SHEET_PLACES; place++) {
                boolean isBare = slotAt[place] == NONE && !isGuarded[place] && !isBounded[place] && digits[place] == NONE;
                if (!isBare && lineOf(place, isColumn) == last) {
                    return false;
                }
            }
            boolean isFree = true;
            for (int slot = 0; slot < SLOTS && isFree; slot++) {
                for (int k = 0; k < tokenMany[slot] && isFree; k++) {
                    int token = tokens[slot * MOST_TOKENS + k];
                    isFree = !Token.hasPlaces(token) || !isInLine(Token.lastOf(token), sheet, isColumn, last);
                }
            }
            for (int k = 0; k < NAMES && isFree; k++) {
                isFree = !isTold(k) || !isInLine(nameLast[k], sheet, isColumn, last);
            }
            return isFree;
        }

        boolean hasGuardIn(int sheet, boolean isColumn, int at) {
            boolean has = false;
            for (int place = 0; place < PLACES && !has; place++) {
                has = isGuarded[place] && isInLine(place, sheet, isColumn, at);
            }
            return has;
        }

        int countCells(int sheet, boolean isColumn, int from, int to) {
            int many = 0;
            for (int place = 0; place < PLACES; place++) {
                int line = lineOf(place, isColumn);
                boolean is = slotAt[place] != NONE && place / SHEET_PLACES == sheet && line >= from && line <= to;
                many += is ? 1 : 0;
            }
            return many;
        }

        /** This becomes another state, in which a line is put in (by is 1) or taken out (by is -1). */
        void shiftFrom(Sheets other, int sheet, boolean isColumn, int at, int by) {
            copyFrom(other);
            for (int place = sheet * SHEET_PLACES; place < (sheet + 1) * SHEET_PLACES; place++) {
                if (by < 0 && lineOf(place, isColumn) == at) {
                    empty(place);
                }
            }
            for (int place = sheet * SHEET_PLACES; place < (sheet + 1) * SHEET_PLACES; place++) {
                if (lineOf(place, isColumn) >= at) {
                    takePlace(other, place, sourceOf(place, isColumn, at, by));
                }
            }
            for (int slot = 0; slot < SLOTS; slot++) {
                for (int k = 0; k < tokenMany[slot]; k++) {
                    int index = slot * MOST_TOKENS + k;
                    tokens[index] = Token.shifted(tokens[index], sheet, isColumn, at, by);
                }
            }
            for (int k = 0; k < NAMES; k++) {
                shiftName(k, sheet, isColumn, at, by);
            }
        }

        private static boolean isInLine(int place, int sheet, boolean isColumn, int at) {
            return place / SHEET_PLACES == sheet && lineOf(place, isColumn) == at;
        }

        /** The PLACE whose content comes to a PLACE in a line from at on; NONE if nothing comes. */
        private static int sourceOf(int place, boolean isColumn, int at, int by) {
            int line = lineOf(place, isColumn);
            int source = line - by;
            boolean isNothing = source >= (isColumn ? COLUMNS : ROWS) || source < at;
            return isNothing ? NONE : place - by * (isColumn ? 1 : COLUMNS);
        }

        private void takePlace(Sheets other, int place, int source) {
            boolean is = isPlace(source);
            slotAt[place] = is ? other.slotAt[source] : NONE;
            isGuarded[place] = is && other.isGuarded[source];
            isBounded[place] = is && other.isBounded[source];
            least[place] = is ? other.least[source] : 0;
            greatest[place] = is ? other.greatest[source] : 0;
            digits[place] = is ? other.digits[source] : NONE;
            if (slotAt[place] != NONE) {
                placeOf[slotAt[place]] = place;
            }
        }

        private void shiftName(int which, int sheet, boolean isColumn, int at, int by) {
            int first = nameFirst[which];
            int last = nameLast[which];
            if (first == NONE) {
                return;
            }
            if (Token.isTaken(first, last, sheet, isColumn, at, by)) {
                tellName(which, NONE, NONE);
            } else {
                tellName(which, Token.shiftedFirst(first, sheet, isColumn, at, by),
                        Token.shiftedLast(last, sheet, isColumn, at, by));
            }
        }

        // -- reading and hanging

        /** Finds anew what READS and HANGS ON what, RINGS and LEVELS. */
        void tie() {
            for (int slot = 0; slot < SLOTS; slot++) {
                readMask[slot] = 0L;
                for (int k = 0; k < tokenMany[slot]; k++) {
                    readMask[slot] |= cellsIn(tokens[slot * MOST_TOKENS + k]);
                }
                hangMask[slot] = readMask[slot];
            }
            for (int over = 0; over < SLOTS; over++) {
                for (int slot = 0; slot < SLOTS && hangMask[over] != 0; slot++) {
                    hangMask[slot] |= (hangMask[slot] >> over & 1) != 0 ? hangMask[over] : 0L;
                }
            }
            rings = 0L;
            for (int slot = 0; slot < SLOTS; slot++) {
                rings |= hangMask[slot] & 1L << slot;
            }
            findLevels();
        }

        boolean isRinged(int slot) {
            return (hangMask[slot] & rings) != 0;
        }

        /** All formulas that READ a PLACE, be it EMPTY or not. */
        long readersOf(int place) {
            int read = slotOf(place);
            long mask = 0L;
            for (int slot = 0; slot < SLOTS; slot++) {
                boolean is = read == NONE ? readsPlace(slot, place) : (readMask[slot] >> read & 1) != 0;
                mask |= is ? 1L << slot : 0L;
            }
            return mask;
        }

        long hangersOn(int place) {
            long readers = readersOf(place);
            long mask = readers;
            for (int slot = 0; slot < SLOTS; slot++) {
                mask |= (hangMask[slot] & readers) != 0 ? 1L << slot : 0L;
            }
            return mask;
        }

        boolean readsPlace(int slot, int place) {
            boolean is = false;
            for (int k = 0; k < tokenMany[slot] && !is; k++) {
                int token = tokens[slot * MOST_TOKENS + k];
                int first = cornerRead(token, false);
                is = first != NONE && isWithin(first, cornerRead(token, true), place);
            }
            return is;
        }

        private long cellsIn(int token) {
            int first = cornerRead(token, false);
            int last = cornerRead(token, true);
            long mask = 0L;
            for (int place = first; place <= last && first != NONE; place++) {
                mask |= hasCell(first, last, place) ? 1L << slotAt[place] : 0L;
            }
            return mask;
        }

        /** A corner of what a TOKEN READS, or NONE. */
        private int cornerRead(int token, boolean isLast) {
            int which = Token.kindOf(token) == Token.OF_NAME ? Token.loadOf(token) : NONE;
            if (isTold(which)) {
                return isLast ? nameLast[which] : nameFirst[which];
            }
            if (!Token.hasPlaces(token)) {
                return NONE;
            }
            return isLast ? Token.lastOf(token) : Token.firstOf(token);
        }

        /** A LEVEL is known as soon as those of all CELLS that it stands on are; a pass finds one more at least. */
        private void findLevels() {
            long known = 0L;
            boolean isMore = true;
            for (int slot = 0; slot < SLOTS; slot++) {
                level[slot] = NONE;
            }
            for (int pass = 0; pass < SLOTS && isMore; pass++) {
                isMore = false;
                for (int slot = 0; slot < SLOTS; slot++) {
                    boolean isDue = placeOf[slot] != NONE && (known >> slot & 1) == 0 && (readMask[slot] & ~known) == 0;
                    if (isDue) {
                        level[slot] = greatestLevelIn(readMask[slot]) + 1;
                        known |= 1L << slot;
                        isMore = true;
                    }
                }
            }
        }

        private int greatestLevelIn(long mask) {
            int result = NONE;
            for (int slot = 0; slot < SLOTS && mask >> slot != 0; slot++) {
                result = (mask >> slot & 1) != 0 ? Math.max(result, level[slot]) : result;
            }
            return result;
        }

        // -- counting

        int greatestLevel() {
            return greatestLevelIn(usedSlots());
        }

        long formulasWithoutRing() {
            long mask = 0L;
            for (int slot = 0; slot < SLOTS; slot++) {
                mask |= tokenMany[slot] > 0 && !isRinged(slot) ? 1L << slot : 0L;
            }
            return mask;
        }

        int countFormulas() {
            int many = 0;
            for (int slot = 0; slot < SLOTS; slot++) {
                many += tokenMany[slot] > 0 ? 1 : 0;
            }
            return many;
        }

        int countFaults() {
            int many = 0;
            for (int slot = 0; slot < SLOTS; slot++) {
                many += placeOf[slot] != NONE && values[slot * Value.SIZE] == FAULT ? 1 : 0;
            }
            return many;
        }

        int countNames() {
            int many = 0;
            for (int k = 0; k < NAMES; k++) {
                many += isTold(k) ? 1 : 0;
            }
            return many;
        }

        int countGuards() {
            int many = 0;
            for (int place = 0; place < PLACES; place++) {
                many += isGuarded[place] ? 1 : 0;
            }
            return many;
        }

        private long usedSlots() {
            long mask = 0L;
            for (int slot = 0; slot < SLOTS; slot++) {
                mask |= placeOf[slot] != NONE ? 1L << slot : 0L;
            }
            return mask;
        }

        // -- soundness

        boolean hasRingsRight() {
            boolean is = true;
            for (int slot = 0; slot < SLOTS && is; slot++) {
                int at = slot * Value.SIZE;
                boolean hasRing = values[at] == FAULT && values[at + 1] == RING;
                is = placeOf[slot] == NONE || hasRing == isRinged(slot);
            }
            return is;
        }

        boolean hasLevelsRising() {
            boolean is = true;
            for (int slot = 0; slot < SLOTS && is; slot++) {
                is = level[slot] == NONE || level[slot] > greatestLevelIn(readMask[slot]);
            }
            return is;
        }

        /** Whether the same formulas stand at the same PLACES as in another state. */
        boolean hasFormulasOf(Sheets other) {
            boolean is = cells == other.cells;
            for (int place = 0; place < PLACES && is; place++) {
                int slot = slotAt[place];
                int otherSlot = other.slotAt[place];
                is = (slot == NONE) == (otherSlot == NONE);
                is = is && (slot == NONE || tokenMany[slot] == other.tokenMany[otherSlot]);
                for (int k = 0; slot != NONE && is && k < tokenMany[slot]; k++) {
                    is = tokens[slot * MOST_TOKENS + k] == other.tokens[otherSlot * MOST_TOKENS + k];
                }
            }
            return is;
        }
    }

    /** Reads TOKENS: tells the SLIP, and lays them in the order in which they are reckoned. */
    private static final class Reader {
        private static final int MOST_OPEN = 6;
        /** Any word but one that opens holds its operands at least so tightly. */
        private static final int LOOSEST = 1;
        /** What is due. */
        private static final int DUE_OPERAND = 0;
        private static final int DUE_JOINT = 1;
        private static final int DUE_OPENING = 2;
        private static final int DUE_AREA = 3;
        private static final int DUE_AREA_END = 4;

        /** Operands, and behind its operands each word. */
        final int[] order = new int[MOST_TOKENS];
        int orderMany;
        /** Words that wait for their operands; each "(" waits as OPEN or as its function. */
        private final int[] waiting = new int[MOST_TOKENS];
        private int waitingMany;
        private final int[] openWord = new int[MOST_OPEN];
        private final int[] openArgument = new int[MOST_OPEN];
        private int openMany;
        private int due;
        /** The function whose "(" is due. */
        private int function;

        int read(int[] tokens, int from, int many) {
            orderMany = 0;
            waitingMany = 0;
            openMany = 0;
            due = DUE_OPERAND;
            for (int k = 0; k < many && from >= 0 && from + k < tokens.length; k++) {
                if (!take(tokens[from + k])) {
                    return k;
                }
            }
            if (due != DUE_JOINT || openMany > 0) {
                return many;
            }
            layWaiting(LOOSEST);
            return NONE;
        }

        /** How many operands a word has. */
        static int operandsOf(int word) {
            switch (word) {
                case IF:
                case LOOK:
                    return 3;
                case SUM:
                case COUNT:
                case LEAST:
                case MOST:
                case NOT:
                case ISFAULT:
                case TURN:
                    return 1;
                default:
                    return 2;
            }
        }

        private static boolean isAreaDue(int function, int argument) {
            switch (function) {
                case SUM:
                case COUNT:
                case LEAST:
                case MOST:
                case COUNTIF:
                    return argument == 0;
                case LOOK:
                    return argument == 1;
                default:
                    return false;
            }
        }

        /** How tightly a word holds its operands; what opens holds none. */
        private static int tightness(int word) {
            switch (word) {
                case TURN:
                    return 6;
                case TIMES:
                case OVER:
                    return 5;
                case PLUS:
                case MINUS:
                    return 4;
                case JOIN:
                    return 3;
                case ALIKE:
                case UNLIKE:
                case LESS:
                case LESS_OR_ALIKE:
                    return 2;
                default:
                    return 0;
            }
        }

        /** Whether a TOKEN may stand here; if so, it is read. */
        private boolean take(int token) {
            int kind = Token.kindOf(token);
            int word = kind == Token.OF_WORD ? Token.loadOf(token) : NONE;
            switch (due) {
                case DUE_OPERAND:
                    return word == NONE ? takeOperand(token, kind) : takeAhead(word);
                case DUE_JOINT:
                    return takeJoint(word) || takeEnd(word);
                case DUE_OPENING:
                    return word == OPEN && opens(function);
                case DUE_AREA:
                    return takeArea(token, kind);
                default:
                    return takeEnd(word);
            }
        }

        private boolean takeOperand(int token, int kind) {
            if (kind == Token.OF_AREA || kind == Token.OF_NAME) {
                return false;
            }
            lay(token);
            due = DUE_JOINT;
            return true;
        }

        private boolean takeArea(int token, int kind) {
            boolean may = kind == Token.OF_PLACE || kind == Token.OF_AREA || kind == Token.OF_NAME || kind == Token.OF_GONE;
            if (may) {
                lay(token | Token.AS_AREA);
                due = DUE_AREA_END;
            }
            return may;
        }

        private boolean takeAhead(int word) {
            if (word == MINUS) {
                await(TURN);
                return true;
            }
            if (word == OPEN) {
                return opens(OPEN);
            }
            if (word >= IF && word <= ISFAULT) {
                function = word;
                due = DUE_OPENING;
                return true;
            }
            return false;
        }

        private boolean takeJoint(int word) {
            if (word < PLUS || word > LESS_OR_ALIKE) {
                return false;
            }
            layWaiting(tightness(word));
            await(word);
            due = DUE_OPERAND;
            return true;
        }

        /** A "," or ")" behind an ARGUMENT or in a bracket. */
        private boolean takeEnd(int word) {
            if (openMany <= 0 || openMany > MOST_OPEN) {
                return false;
            }
            int innermost = openWord[openMany - 1];
            int argument = openArgument[openMany - 1];
            boolean isAtLast = innermost == OPEN || argument + 1 == operandsOf(innermost);
            if (word == COMMA && !isAtLast) {
                layWaiting(LOOSEST);
                openArgument[openMany - 1]++;
                due = isAreaDue(innermost, argument + 1) ? DUE_AREA : DUE_OPERAND;
                return true;
            }
            if (word == CLOSE && isAtLast) {
                layWaiting(LOOSEST);
                close(innermost);
                return true;
            }
            return false;
        }

        private boolean opens(int word) {
            if (openMany >= MOST_OPEN) {
                return false;
            }
            openWord[openMany] = word;
            openArgument[openMany] = 0;
            openMany++;
            await(word);
            due = isAreaDue(word, 0) ? DUE_AREA : DUE_OPERAND;
            return true;
        }

        private void close(int innermost) {
            openMany--;
            waitingMany -= waitingMany > 0 ? 1 : 0;
            if (innermost != OPEN) {
                lay(Token.joined(Token.OF_WORD, innermost));
            }
            due = DUE_JOINT;
        }

        private void await(int word) {
            if (waitingMany < waiting.length) {
                waiting[waitingMany] = word;
                waitingMany++;
            }
        }

        private void lay(int token) {
            if (orderMany < order.length) {
                order[orderMany] = token;
                orderMany++;
            }
        }

        /** Lays the words that wait and hold their operands at least so tightly, back to what opened last. */
        private void layWaiting(int tightness) {
            while (waitingMany > 0 && tightness(waiting[waitingMany - 1]) >= tightness) {
                waitingMany--;
                lay(Token.joined(Token.OF_WORD, waiting[waitingMany]));
            }
        }
    }

    /** Reckons what hangs on a change, and only that. */
    private static final class Reckoner {
        private final Slate slate;
        private final Reader reader;
        private final Scribe scribe = new Scribe();
        /** VALUES of operands; two more than can be in use, so that a word may look at three from any. */
        private final Value[] stack = new Value[MOST_TOKENS + 3];
        private final Value now = new Value();
        private final boolean[] isWritten = new boolean[PLACES];
        private boolean isAllWritten;
        /** PLACES that a CELL left. */
        private final int[] left = new int[Sheets.SLOTS];
        private int leftMany;

        Reckoner(Slate slate, Reader reader) {
            this.slate = slate;
            this.reader = reader;
            for (int k = 0; k < stack.length; k++) {
                stack[k] = new Value();
            }
        }

        void unmark() {
            isAllWritten = false;
            for (int place = 0; place < PLACES; place++) {
                isWritten[place] = false;
            }
        }

        void mark(int place) {
            if (isPlace(place)) {
                isWritten[place] = true;
            }
        }

        void markAll() {
            isAllWritten = true;
        }

        /**
         * Reckons a state in which what is marked was written since another one, and tells the formulas that
         * were RECKONED. By rising LEVELS, all that a formula READS stands before it is reckoned.
         */
        long reckon(Sheets before, Sheets after) {
            after.tie();
            long changed = settle(before, after);
            long mask = 0L;
            int greatest = after.greatestLevel();
            for (int level = 0; level <= greatest && level < Sheets.SLOTS; level++) {
                for (int slot = 0; slot < Sheets.SLOTS; slot++) {
                    if (after.level[slot] == level && isDue(after, slot, changed)) {
                        reader.read(after.tokens, slot * MOST_TOKENS, after.tokenMany[slot]);
                        evaluate(after, slot);
                        mask |= 1L << slot;
                        changed |= after.isAlikeAt(after.placeOf[slot], before) ? 0L : 1L << slot;
                    }
                }
            }
            return mask;
        }

        /** Puts "#ring" where it belongs, and tells which of the constants and RINGS changed. */
        private long settle(Sheets before, Sheets after) {
            long changed = 0L;
            leftMany = 0;
            for (int slot = 0; slot < Sheets.SLOTS; slot++) {
                int place = after.placeOf[slot];
                if (place != NONE && after.isRinged(slot)) {
                    now.setFault(RING);
                    now.writeTo(after.values, slot * Value.SIZE);
                }
                boolean isSettled = place != NONE && (after.tokenMany[slot] == 0 || after.isRinged(slot));
                changed |= isSettled && !after.isAlikeAt(place, before) ? 1L << slot : 0L;
                int old = before.placeOf[slot];
                if (old != NONE && after.slotAt[old] == NONE && leftMany < left.length) {
                    left[leftMany] = old;
                    leftMany++;
                }
            }
            return changed;
        }

        private boolean isDue(Sheets sheets, int slot, long changed) {
            if (sheets.tokenMany[slot] == 0) {
                return false;
            }
            boolean is = isAllWritten || isWritten[sheets.placeOf[slot]] || (sheets.readMask[slot] & changed) != 0;
            for (int k = 0; k < leftMany && !is; k++) {
                is = sheets.readsPlace(slot, left[k]);
            }
            return is;
        }

        /** Reckons the formula in a slot, which was read just now. */
        private void evaluate(Sheets sheets, int slot) {
            int height = 0;
            for (int k = 0; k < reader.orderMany; k++) {
                int item = reader.order[k];
                int word = Token.kindOf(item) == Token.OF_WORD ? Token.loadOf(item) : NONE;
                int base = word == NONE ? height : height - Reader.operandsOf(word);
                if (base < 0 || base + 2 >= stack.length) {
                    break;
                }
                height = base + 1;
                switch (word) {
                    case NONE:
                        lay(sheets, item, stack[base]);
                        break;
                    case TURN:
                        turn(stack[base]);
                        break;
                    case PLUS:
                    case MINUS:
                    case TIMES:
                    case OVER:
                        calculate(word, stack[base], stack[base + 1]);
                        break;
                    case JOIN:
                        join(stack[base], stack[base + 1]);
                        break;
                    case ALIKE:
                    case UNLIKE:
                    case LESS:
                    case LESS_OR_ALIKE:
                        weigh(word, stack[base], stack[base + 1]);
                        break;
                    case IF:
                        choose(stack[base], stack[base + 1], stack[base + 2]);
                        break;
                    case LOOK:
                        lookUp(sheets, stack[base], stack[base + 1], stack[base + 2]);
                        break;
                    case COUNTIF:
                        countAlike(sheets, stack[base], stack[base + 1]);
                        break;
                    case SUM:
                        sumUp(sheets, stack[base]);
                        break;
                    case COUNT:
                        countNumbers(sheets, stack[base]);
                        break;
                    case LEAST:
                    case MOST:
                        findExtreme(sheets, stack[base], word == LEAST);
                        break;
                    case NOT:
                        negate(stack[base]);
                        break;
                    default:
                        stack[base].setTruth(stack[base].kind == FAULT);
                }
            }
            stack[0].countEmptyAsZero();
            stack[0].writeTo(sheets.values, slot * Value.SIZE);
        }

        // -- operands

        private void lay(Sheets sheets, int item, Value into) {
            int kind = Token.kindOf(item);
            if ((item & Token.AS_AREA) != 0) {
                layArea(sheets, item, into);
            } else if (kind == Token.OF_NUMBER) {
                into.setWhole(Token.loadOf(item));
            } else if (kind == Token.OF_TEXT) {
                into.setWord(Token.loadOf(item));
            } else if (kind == Token.OF_TRUTH) {
                into.setTruth(Token.loadOf(item) == 1);
            } else if (kind == Token.OF_PLACE) {
                sheets.fetch(Token.firstOf(item), into);
            } else {
                into.setFault(GONE);
            }
        }

        private void layArea(Sheets sheets, int item, Value into) {
            int first = sheets.cornerRead(item, false);
            int last = sheets.cornerRead(item, true);
            int fault = Token.kindOf(item) == Token.OF_NAME ? NO_NAME : GONE;
            into.setArea(first, last, first == NONE ? fault : NONE);
        }

        // -- words

        private static boolean isFaulty(Value one, Value two) {
            if (one.kind != FAULT && two.kind == FAULT) {
                one.copy(two);
            }
            return one.kind == FAULT;
        }

        private void turn(Value one) {
            one.countEmptyAsZero();
            if (one.kind == NUMBER) {
                one.tag = -one.tag;
            } else if (one.kind != FAULT) {
                one.setFault(KIND);
            }
        }

        private void calculate(int word, Value one, Value two) {
            if (isFaulty(one, two)) {
                return;
            }
            one.countEmptyAsZero();
            two.countEmptyAsZero();
            if (one.kind != NUMBER || two.kind != NUMBER) {
                one.setFault(KIND);
                return;
            }
            if (word == OVER && two.tag == 0) {
                one.setFault(ZERO);
                return;
            }
            slate.load(one, slate.total);
            slate.load(two, slate.other);
            switch (word) {
                case PLUS:
                    slate.add(slate.total, slate.other);
                    break;
                case MINUS:
                    slate.other.sign = -slate.other.sign;
                    slate.add(slate.total, slate.other);
                    break;
                case TIMES:
                    slate.multiply(slate.total, two.tag, slate.other.top, slate.other.bottom);
                    break;
                default:
                    slate.multiply(slate.total, two.tag, slate.other.bottom, slate.other.top);
                    break;
            }
            slate.store(slate.total, one);
        }

        private void join(Value one, Value two) {
            if (isFaulty(one, two)) {
                return;
            }
            scribe.begin();
            scribe.writeValue(one);
            scribe.writeValue(two);
            one.setSigns(scribe.page);
        }

        private void weigh(int word, Value one, Value two) {
            if (isFaulty(one, two)) {
                return;
            }
            one.countEmptyAsZero();
            two.countEmptyAsZero();
            if (word == ALIKE || word == UNLIKE) {
                one.setTruth(one.isAlike(two) == (word == ALIKE));
            } else if (one.kind != two.kind) {
                one.setFault(KIND);
            } else {
                int order = slate.order(one, two);
                one.setTruth(order < 0 || order == 0 && word == LESS_OR_ALIKE);
            }
        }

        private void choose(Value one, Value two, Value three) {
            if (one.kind == TRUTH) {
                one.copy(one.tag == 1 ? two : three);
                one.countEmptyAsZero();
            } else if (one.kind != FAULT) {
                one.setFault(KIND);
            }
        }

        private void negate(Value one) {
            if (one.kind == TRUTH) {
                one.setTruth(one.tag == 0);
            } else if (one.kind != FAULT) {
                one.setFault(KIND);
            }
        }

        // -- words over AREAS: the AREA itself becomes the VALUE

        private static boolean isFaultyArea(Value area) {
            if (area.tag != NONE) {
                area.setFault(area.tag);
            }
            return area.kind == FAULT;
        }

        private void sumUp(Sheets sheets, Value area) {
            if (isFaultyArea(area)) {
                return;
            }
            int first = area.part[0];
            int last = area.part[1];
            slate.total.setWhole(0L);
            for (int place = first; place <= last; place++) {
                if (!sheets.hasCell(first, last, place)) {
                    continue;
                }
                sheets.fetch(place, now);
                if (now.kind == FAULT) {
                    area.copy(now);
                    return;
                }
                if (now.kind == NUMBER) {
                    slate.load(now, slate.other);
                    slate.add(slate.total, slate.other);
                }
            }
            slate.store(slate.total, area);
        }

        private void findExtreme(Sheets sheets, Value area, boolean isLeast) {
            if (isFaultyArea(area)) {
                return;
            }
            int first = area.part[0];
            int last = area.part[1];
            area.setFault(MISSED);
            for (int place = first; place <= last; place++) {
                if (!sheets.hasCell(first, last, place)) {
                    continue;
                }
                sheets.fetch(place, now);
                if (now.kind == FAULT) {
                    area.copy(now);
                    return;
                }
                if (now.kind == NUMBER) {
                    int order = area.kind == NUMBER ? slate.order(now, area) : 0;
                    boolean isFurther = area.kind != NUMBER || (isLeast ? order < 0 : order > 0);
                    if (isFurther) {
                        area.copy(now);
                    }
                }
            }
        }

        private void countNumbers(Sheets sheets, Value area) {
            if (isFaultyArea(area)) {
                return;
            }
            int first = area.part[0];
            int last = area.part[1];
            int many = 0;
            for (int place = first; place <= last; place++) {
                many += sheets.hasCell(first, last, place) && sheets.kindAt(place) == NUMBER ? 1 : 0;
            }
            area.setWhole(many);
        }

        private void countAlike(Sheets sheets, Value area, Value sought) {
            if (isFaultyArea(area) || isFaulty(area, sought)) {
                return;
            }
            sought.countEmptyAsZero();
            int first = area.part[0];
            int last = area.part[1];
            int many = 0;
            for (int place = first; place <= last; place++) {
                if (sheets.hasCell(first, last, place)) {
                    sheets.fetch(place, now);
                    many += now.isAlike(sought) ? 1 : 0;
                }
            }
            area.setWhole(many);
        }

        private void lookUp(Sheets sheets, Value sought, Value area, Value which) {
            if (sought.kind == FAULT) {
                return;
            }
            if (isFaultyArea(area) || isFaulty(area, which)) {
                sought.copy(area);
                return;
            }
            int first = area.part[0];
            int last = area.part[1];
            int column = which.wholeUpTo(columnOf(last) - columnOf(first) + 1);
            if (column == NONE) {
                sought.setFault(NO_PLACE);
                return;
            }
            sought.countEmptyAsZero();
            for (int place = first; place <= last; place += COLUMNS) {
                sheets.fetch(place, now);
                if (now.isAlike(sought)) {
                    sheets.fetch(place + column - 1, sought);
                    sought.countEmptyAsZero();
                    return;
                }
            }
            sought.setFault(MISSED);
        }
    }

    /** Writes on a page, which is used again for each text. */
    private static final class Scribe {
        private static final int GROUP = 1000000000;
        /** A top or bottom has 37 digits at most, and three more when it is rounded. */
        private static final int MOST_GROUPS = 6;

        final StringBuilder page = new StringBuilder();
        private final int[] group = new int[MOST_GROUPS];
        private final Natural natural = new Natural();
        private final Natural factor = new Natural();
        private final Natural product = new Natural();
        private final Natural bottom = new Natural();

        void begin() {
            page.setLength(0);
        }

        void writeValue(Value told) {
            if (told.kind == NUMBER) {
                writeSign(told.tag);
                natural.setParts(told.part, 0);
                writeNatural();
                natural.setParts(told.part, Value.LIMBS);
                if (!natural.isOne()) {
                    page.append('/');
                    writeNatural();
                }
            } else if (told.kind == TEXT) {
                for (int k = 0; k < told.tag; k++) {
                    page.append(told.signAt(k));
                }
            } else if (told.kind == TRUTH) {
                page.append(told.tag == 1 ? "true" : "false");
            } else if (told.kind == FAULT) {
                page.append(faultWord(told.tag));
            }
        }

        /** A NUMBER with so many digits, 0 to 3, behind a point: twice the top and a bottom more, by two bottoms. */
        void writeRounded(Value number, int digits) {
            int scale = 1;
            for (int k = 0; k < digits && k < 3; k++) {
                scale *= 10;
            }
            factor.setLong(2L * scale);
            natural.setParts(number.part, 0);
            product.setProduct(natural, factor);
            bottom.setParts(number.part, Value.LIMBS);
            product.setSum(product, bottom);
            bottom.setSum(bottom, bottom);
            Natural.divide(product, bottom, natural);
            writeSign(natural.isZero() ? 0 : number.tag);
            int behind = natural.divideSmall(scale);
            writeNatural();
            if (digits > 0) {
                page.append('.');
                writeDigits(behind, scale / 10);
            }
        }

        /** TOKENS as they stand in a SHEET. */
        void writeTokens(int[] tokens, int from, int many, int sheet) {
            for (int k = 0; k < many && from >= 0 && from + k < tokens.length; k++) {
                writeOne(tokens[from + k], sheet);
            }
        }

        private void writeOne(int token, int sheet) {
            switch (Token.kindOf(token)) {
                case Token.OF_NUMBER:
                    page.append(Token.loadOf(token));
                    break;
                case Token.OF_TEXT:
                    page.append('w');
                    page.append(Token.loadOf(token));
                    break;
                case Token.OF_TRUTH:
                    page.append(Token.loadOf(token) == 1 ? "true" : "false");
                    break;
                case Token.OF_PLACE:
                    writeSheet(token, sheet);
                    writeCorner(Token.firstOf(token), Token.heldOf(token));
                    break;
                case Token.OF_AREA:
                    writeSheet(token, sheet);
                    writeCorner(Token.firstOf(token), Token.heldOf(token));
                    page.append("..");
                    writeCorner(Token.lastOf(token), Token.heldOf(token));
                    break;
                case Token.OF_NAME:
                    page.append('n');
                    page.append(Token.loadOf(token));
                    break;
                case Token.OF_WORD:
                    page.append(wordText(Token.loadOf(token)));
                    break;
                default:
                    page.append("gone");
                    break;
            }
        }

        private void writeSheet(int token, int sheet) {
            int other = Token.firstOf(token) / SHEET_PLACES;
            if (other != sheet) {
                page.append(other);
                page.append(':');
            }
        }

        private void writeCorner(int place, int held) {
            if ((held & Token.COLUMN_HELD) != 0) {
                page.append('$');
            }
            page.append((char) ('a' + columnOf(place)));
            if ((held & Token.ROW_HELD) != 0) {
                page.append('$');
            }
            page.append(rowOf(place));
        }

        private void writeSign(int sign) {
            if (sign < 0) {
                page.append('-');
            }
        }

        /** Writes the natural number and uses it up. */
        private void writeNatural() {
            int many = 0;
            while (many < MOST_GROUPS && (many == 0 || !natural.isZero())) {
                group[many] = natural.divideSmall(GROUP);
                many++;
            }
            page.append(group[many - 1]);
            for (int k = many - 2; k >= 0; k--) {
                writeDigits(group[k], GROUP / 10);
            }
        }

        /** Writes digits with zeros ahead, the first one of a unit. */
        private void writeDigits(int number, int firstUnit) {
            for (int unit = firstUnit; unit > 0; unit /= 10) {
                page.append((char) ('0' + number / unit % 10));
            }
        }

        private static String faultWord(int fault) {
            switch (fault) {
                case RING:
                    return "#ring";
                case ZERO:
                    return "#zero";
                case KIND:
                    return "#kind";
                case MISSED:
                    return "#none";
                case NO_PLACE:
                    return "#place";
                case GONE:
                    return "#gone";
                case NO_NAME:
                    return "#name";
                default:
                    return "#long";
            }
        }

        private static String wordText(int word) {
            switch (word) {
                case PLUS:
                    return "+";
                case MINUS:
                    return "-";
                case TIMES:
                    return "*";
                case OVER:
                    return "/";
                case JOIN:
                    return "&";
                case ALIKE:
                    return "=";
                case UNLIKE:
                    return "#";
                case LESS:
                    return "<";
                case LESS_OR_ALIKE:
                    return "<=";
                case OPEN:
                    return "(";
                case CLOSE:
                    return ")";
                case COMMA:
                    return ",";
                default:
                    return functionText(word);
            }
        }

        private static String functionText(int word) {
            switch (word) {
                case IF:
                    return "if";
                case SUM:
                    return "sum";
                case COUNT:
                    return "count";
                case LEAST:
                    return "least";
                case MOST:
                    return "most";
                case LOOK:
                    return "look";
                case COUNTIF:
                    return "countif";
                case NOT:
                    return "not";
                default:
                    return "isfault";
            }
        }
    }

    /** Rows by their VALUES in a column: gathered first, then told in an order. */
    private static final class Rows {
        private final Slate slate;
        private final Scribe keys = new Scribe();
        /** Where the text of each row begins among the keys; one more for where the last one ends. */
        private final int[] keyFrom = new int[ROWS + 1];
        private final Value[] gathered = new Value[ROWS];
        private final int[] order = new int[ROWS];
        private final Value wanted = new Value();
        private int sheet;
        private int firstRow;
        private int many;

        Rows(Slate slate) {
            this.slate = slate;
            for (int k = 0; k < ROWS; k++) {
                gathered[k] = new Value();
            }
        }

        void gather(Sheets sheets, int one, int last, int column) {
            sheet = one / SHEET_PLACES;
            firstRow = rowOf(one);
            many = Math.max(0, rowOf(last) - firstRow + 1);
            for (int k = 0; k < many; k++) {
                sheets.fetch(placeIn(k, column), gathered[k]);
                order[k] = k;
            }
        }

        void writeSorted(Scribe scribe, boolean isFalling) {
            arrange(false, isFalling);
            for (int k = 0; k < many; k++) {
                writeRow(scribe, order[k], k == 0);
            }
        }

        void writeFiltered(Scribe scribe, int word, int number) {
            boolean isFirst = true;
            wanted.setWhole(number);
            for (int k = 0; k < many; k++) {
                gathered[k].countEmptyAsZero();
                if (holds(gathered[k], word)) {
                    writeRow(scribe, k, isFirst);
                    isFirst = false;
                }
            }
        }

        void writeGrouped(Scribe scribe, Sheets sheets, int other) {
            writeKeys();
            arrange(true, false);
            for (int from = 0; from < many; from++) {
                if (from == 0 || compareKeys(order[from], order[from - 1]) != 0) {
                    if (from > 0) {
                        scribe.page.append(' ');
                    }
                    for (int k = keyFrom[order[from]]; k < keyFrom[order[from] + 1]; k++) {
                        scribe.page.append(keys.page.charAt(k));
                    }
                    scribe.page.append(':');
                    sumGroup(sheets, from, other);
                    scribe.writeValue(wanted);
                }
            }
        }

        private int placeIn(int row, int column) {
            return sheet * SHEET_PLACES + (firstRow + row) * COLUMNS + column;
        }

        private void writeRow(Scribe scribe, int row, boolean isFirst) {
            if (!isFirst) {
                scribe.page.append(' ');
            }
            scribe.page.append(firstRow + row);
        }

        /** Puts the rows in order; those that are as good as each other stay as they stand. */
        private void arrange(boolean isByKeys, boolean isFalling) {
            int turned = isFalling ? -1 : 1;
            for (int k = 1; k < many; k++) {
                int row = order[k];
                int at = k;
                while (at > 0 && compare(row, order[at - 1], isByKeys) * turned < 0) {
                    order[at] = order[at - 1];
                    at--;
                }
                order[at] = row;
            }
        }

        private int compare(int row, int other, boolean isByKeys) {
            if (isByKeys) {
                return compareKeys(row, other);
            }
            Value one = gathered[row];
            Value two = gathered[other];
            if (one.kind != two.kind) {
                return Integer.compare(rank(one.kind), rank(two.kind));
            }
            return one.kind == FAULT || one.kind == EMPTY ? 0 : slate.order(one, two);
        }

        /** Kinds as they stand in a rising order: all but EMPTY by their numbers. */
        private static int rank(int kind) {
            return kind == EMPTY ? FAULT + 1 : kind;
        }

        private boolean holds(Value told, int word) {
            if (told.kind == FAULT) {
                return false;
            }
            if (word == ALIKE || word == UNLIKE) {
                return told.isAlike(wanted) == (word == ALIKE);
            }
            if (told.kind != NUMBER) {
                return false;
            }
            int result = slate.order(told, wanted);
            return result < 0 || result == 0 && word == LESS_OR_ALIKE;
        }

        private void writeKeys() {
            keys.begin();
            for (int k = 0; k < many; k++) {
                keyFrom[k] = keys.page.length();
                if (gathered[k].kind == EMPTY) {
                    keys.page.append('-');
                }
                keys.writeValue(gathered[k]);
                keyFrom[k + 1] = keys.page.length();
            }
        }

        private int compareKeys(int row, int other) {
            int length = keyFrom[row + 1] - keyFrom[row];
            int otherLength = keyFrom[other + 1] - keyFrom[other];
            int result = 0;
            for (int k = 0; k < length && k < otherLength && result == 0; k++) {
                result = Integer.compare(keys.page.charAt(keyFrom[row] + k), keys.page.charAt(keyFrom[other] + k));
            }
            return result == 0 ? Integer.compare(length, otherLength) : result;
        }

        /** Sums up the NUMBERS in a column of all rows with one key, of which the first is told. */
        private void sumGroup(Sheets sheets, int from, int column) {
            slate.total.setWhole(0L);
            for (int k = from; k < many && compareKeys(order[k], order[from]) == 0; k++) {
                sheets.fetch(placeIn(order[k], column), wanted);
                if (wanted.kind == NUMBER) {
                    slate.load(wanted, slate.other);
                    slate.add(slate.total, slate.other);
                }
            }
            slate.store(slate.total, wanted);
        }
    }
}
