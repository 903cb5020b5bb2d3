public final class DitherDesk {
    public static final int NONE = -1, BAD = -2, STATE = -3, FULL = -4;
    public static final long NO = Long.MIN_VALUE;

    private static final int NO_ENTRY = -1;
    private static final int NEVER = -5, NOTHING = -11, CAST = -12, PLACE = -13, SIZE = -14;
    private static final int FIRST_FAULT = -10, ROW_ENDS = 200;

    private static final int CHANNELS = 3, TOP_CHANNEL = 63, TOP_COLOUR = 262143;
    private static final int PICTURES = 4, MOST_WIDE = 12, MOST_HIGH = 12, MOST_PIXELS = 144;
    private static final int PALETTES = 4, MOST_ENTRIES = 16, MOST_BOXES = 16;
    private static final int MOST_PASSES = 20, MOST_WORK = 6000;
    private static final int MOST_SIGNS = 100, TOP_SIGN = 127, MOST_CLAUSES = 12, MOST_RAMP = 8;
    private static final int MOST_SEEN = 6, MOST_ROWS = 8, ROW = 3;
    private static final int TAPES = 6, MOST_ITEMS = 150;

    private static final int METRIC = 0, KERNEL = 1, SCREEN_RULE = 2, STRENGTH = 3;
    private static final int[] RULES_AT_FIRST = {0, 0, 0, 16};
    private static final int[] TOP_RULES = {3, 4, 2, 63};

    private static final int WEIGHTED = 1, GREATEST = 2, STREETS = 3;

    private static final int UNMADE = -1, PLAIN = 0, SPREAD = 1, SERPENT = 2, SCREEN = 3, TURNED = 4;
    private static final int[] KIND_ABOVE = {-1, 0, 1, 0, 3};

    /** The parts of all kernels: so many to the right, so many down, so many of the whole. */
    private static final int[] PARTS = {
        1, 0, 1,
        1, 0, 7, -1, 1, 3, 0, 1, 5, 1, 1, 1,
        1, 0, 1, 2, 0, 1, -1, 1, 1, 0, 1, 1, 1, 1, 1, 0, 2, 1,
        1, 0, 2, -1, 1, 1, 0, 1, 1};
    private static final int[] KERNEL_FROM = {0, 0, 1, 5, 11, 14};
    private static final int[] KERNEL_WHOLE = {1, 1, 16, 8, 4};

    /** The numbers of all screens, row by row. */
    private static final int[] SCREEN_NUMBERS = {
        0, 2, 3, 1,
        0, 8, 2, 10, 12, 4, 14, 6, 3, 11, 1, 9, 15, 7, 13, 5,
        6, 8, 4, 1, 0, 3, 5, 2, 7};
    private static final int[] SCREEN_FROM = {0, 4, 20};
    private static final int[] SCREEN_WIDTH = {2, 4, 3};

    private static final int REFINE_ROW = 0, METRIC_ROW = 1, KERNEL_ROW = 2, DROP_ROW = 3;
    private static final int[] TOP_PLANNED = {3, 3, 4, 15};

    private static final int EMPTY = -1, BYTES = 0, SHORTS = 1, FLOATS = 3;

    private final World now = new World();
    private final World saved = new World();
    private final World trial = new World();
    private final Cutter cutter = new Cutter();
    private final Refiner refiner = new Refiner();
    private final Reader reader = new Reader();
    private final Tape[] tapes = new Tape[TAPES];
    private boolean isSaved;
    private int work;

    public DitherDesk() {
        for (int i = 0; i < tapes.length; i++) {
            tapes[i] = new Tape();
        }
    }

    // ---- pictures

    public int picture(int picture, int wide, int high) {
        Picture frame = now.frameAt(picture);
        if (frame == null) {
            return NONE;
        }
        if (!isWithin(wide, 0, MOST_WIDE) || (wide > 0 && !isWithin(high, 1, MOST_HIGH))) {
            return BAD;
        }
        frame.blacken(wide, wide == 0 ? 0 : high);
        return frame.pixels();
    }

    public int paint(int picture, int x, int y, int colour) {
        Picture shown = now.pictureAt(picture);
        if (shown == null) {
            return NONE;
        }
        if (!shown.holds(x, y) || !isColour(colour)) {
            return BAD;
        }
        int before = shown.colourAt(x, y);
        put(shown.colours, shown.placeOf(x, y), colour);
        return before;
    }

    public int noise(int picture, int seed) {
        Picture shown = now.pictureAt(picture);
        if (shown == null) {
            return NONE;
        }
        shown.drawNoise(seed);
        return shown.pixels();
    }

    public int shade(int picture, int from, int to) {
        Picture shown = now.pictureAt(picture);
        if (shown == null) {
            return NONE;
        }
        if (!isColour(from) || !isColour(to)) {
            return BAD;
        }
        shown.drawShade(from, to);
        return shown.pixels();
    }

    public int pixel(int picture, int x, int y) {
        Picture shown = now.pictureAt(picture);
        if (shown == null) {
            return NONE;
        }
        return shown.holds(x, y) ? shown.colourAt(x, y) : BAD;
    }

    public int of(int picture, int what) {
        Picture shown = now.pictureAt(picture);
        if (shown == null || !isWithin(what, 0, 4)) {
            return NONE;
        }
        cutter.gather(shown);
        switch (what) {
            case 0: return shown.wide;
            case 1: return shown.high;
            case 2: return cutter.unlike;
            case 3: return at(cutter.colours, 0);
            default: return at(cutter.colours, cutter.unlike - 1);
        }
    }

    public int many(int picture, int colour) {
        Picture shown = now.pictureAt(picture);
        if (shown == null) {
            return NONE;
        }
        return isColour(colour) ? shown.pixelsOf(colour) : BAD;
    }

    public int common(int picture, int k) {
        Picture shown = now.pictureAt(picture);
        if (shown == null) {
            return NONE;
        }
        cutter.gather(shown);
        return isWithin(k, 0, cutter.unlike - 1) ? cutter.commonest(k) : BAD;
    }

    public long mean(int picture, int channel, int part) {
        Picture shown = now.pictureAt(picture);
        if (shown == null || !isWithin(channel, 0, CHANNELS - 1) || !isWithin(part, 0, 1)) {
            return NO;
        }
        return lowestPart(shown.sumOn(channel), shown.pixels(), part);
    }

    public int box(int picture, int n, int i, int what) {
        Picture shown = now.pictureAt(picture);
        if (shown == null || !isWithin(what, 0, 4)) {
            return NONE;
        }
        if (!isWithin(n, 1, MOST_BOXES)) {
            return BAD;
        }
        if (lacksWork(1)) {
            return FULL;
        }
        cutter.cutInto(shown, n);
        Box box = cutter.boxAt(i);
        if (box == null) {
            return BAD;
        }
        work += 1;
        switch (what) {
            case 0: return box.pixels;
            case 1: return box.end - box.from;
            case 2: return cutter.meanOf(box);
            case 3: return box.span;
            default: return box.least;
        }
    }

    // ---- palettes

    public int entry(int palette, int colour) {
        Palette mixed = now.paletteAt(palette);
        if (mixed == null) {
            return NONE;
        }
        if (!isColour(colour)) {
            return BAD;
        }
        if (mixed.entryWith(colour) >= 0) {
            return STATE;
        }
        if (mixed.isFull()) {
            return FULL;
        }
        mixed.append(colour, false);
        return mixed.size - 1;
    }

    public int drop(int palette, int entry) {
        Palette mixed = now.paletteAt(palette);
        if (mixed == null || !mixed.has(entry)) {
            return NONE;
        }
        mixed.remove(entry);
        return mixed.size;
    }

    public int change(int palette, int entry, int colour) {
        Palette mixed = now.paletteAt(palette);
        if (mixed == null || !mixed.has(entry)) {
            return NONE;
        }
        if (!isColour(colour)) {
            return BAD;
        }
        int holder = mixed.entryWith(colour);
        if (mixed.isLocked(entry) || (holder >= 0 && holder != entry)) {
            return STATE;
        }
        int before = mixed.colourOf(entry);
        put(mixed.colours, entry, colour);
        return before;
    }

    public int lock(int palette, int entry, boolean isLocked) {
        Palette mixed = now.paletteAt(palette);
        if (mixed == null || !mixed.has(entry)) {
            return NONE;
        }
        int before = mixed.isLocked(entry) ? 1 : 0;
        put(mixed.locks, entry, isLocked ? 1 : 0);
        return before;
    }

    public int told(int palette, int entry, int what) {
        Palette mixed = now.paletteAt(palette);
        if (mixed == null || !mixed.has(entry) || !isWithin(what, 0, 4)) {
            return NONE;
        }
        switch (what) {
            case 0: return mixed.colourOf(entry);
            case 1: return mixed.isLocked(entry) ? 1 : 0;
            default: return channelOf(mixed.colourOf(entry), what - 2);
        }
    }

    public int feed(int sign) {
        if (!isWithin(sign, 0, TOP_SIGN)) {
            return BAD;
        }
        if (reader.length >= MOST_SIGNS) {
            return FULL;
        }
        reader.append(sign);
        return reader.length;
    }

    public int read(int palette) {
        Palette mixed = now.paletteAt(palette);
        if (mixed == null) {
            return NONE;
        }
        boolean isRead = reader.parse();
        reader.length = 0;
        return isRead ? reader.giveTo(mixed) : FIRST_FAULT - reader.place;
    }

    public int cut(int palette, int picture, int n) {
        Palette mixed = now.paletteAt(palette);
        Picture shown = now.pictureAt(picture);
        if (mixed == null || shown == null) {
            return NONE;
        }
        if (!isWithin(n, 1, MOST_ENTRIES)) {
            return BAD;
        }
        if (lacksWork(1)) {
            return FULL;
        }
        work += 1;
        mixed.keepLocked();
        if (mixed.size < n) {
            cutter.cutInto(shown, n - mixed.size);
            cutter.giveMeansTo(mixed);
        }
        return mixed.size;
    }

    public int refine(int palette, int picture, int n) {
        Palette mixed = now.paletteAt(palette);
        Picture shown = now.pictureAt(picture);
        if (mixed == null || shown == null) {
            return NONE;
        }
        if (!isWithin(n, 1, MOST_PASSES)) {
            return BAD;
        }
        if (mixed.size == 0) {
            return STATE;
        }
        if (lacksWork(n)) {
            return FULL;
        }
        work += n;
        int passes = 0;
        while (passes < n && refiner.refineOnce(mixed, shown, now.ruleOf(METRIC))) {
            passes++;
        }
        return passes;
    }

    // ---- near

    public int rule(int what, int v) {
        if (!isWithin(what, METRIC, STRENGTH)) {
            return NONE;
        }
        if (!isWithin(v, 0, at(TOP_RULES, what))) {
            return BAD;
        }
        int before = now.ruleOf(what);
        put(now.rules, what, v);
        return before;
    }

    public int far(int colour, int other) {
        if (!isColour(colour) || !isColour(other)) {
            return BAD;
        }
        return farBetween(now.ruleOf(METRIC), colour, other);
    }

    public int nearest(int palette, int colour) {
        Palette mixed = now.paletteAt(palette);
        if (mixed == null) {
            return NONE;
        }
        return isColour(colour) ? mixed.nearestTo(colour, now.ruleOf(METRIC), NO_ENTRY) : BAD;
    }

    public int near(int palette, int colour, int k) {
        Palette mixed = now.paletteAt(palette);
        if (mixed == null) {
            return NONE;
        }
        if (!isColour(colour) || !isWithin(k, 0, mixed.size - 1)) {
            return BAD;
        }
        return mixed.nextNearest(colour, k, now.ruleOf(METRIC));
    }

    // ---- sheets

    public int make(int picture, int palette, int way) {
        Picture shown = now.pictureAt(picture);
        Palette mixed = now.paletteAt(palette);
        if (shown == null || mixed == null) {
            return NONE;
        }
        if (!isWithin(way, PLAIN, TURNED)) {
            return BAD;
        }
        if (mixed.size == 0) {
            return STATE;
        }
        if (lacksWork(1)) {
            return FULL;
        }
        work += 1;
        now.sheet.makeFrom(shown, mixed, way, now.rules);
        return now.sheet.unlikeEntries();
    }

    public int sheet(int x, int y, int what) {
        Sheet made = now.sheet;
        if (!isWithin(what, 0, 2)) {
            return NONE;
        }
        if (!made.isMade()) {
            return STATE;
        }
        if (!isWithin(x, 0, made.wide - 1) || !isWithin(y, 0, made.high - 1)) {
            return BAD;
        }
        int place = y * made.wide + x;
        switch (what) {
            case 0: return at(made.entries, place);
            case 1: return at(made.colours, place);
            default: return at(made.shown, place);
        }
    }

    public long sum(int what) {
        Sheet made = now.sheet;
        if (!isWithin(what, 0, 15) || !made.isMade()) {
            return NO;
        }
        switch (what) {
            case 3: return made.errorOnAll();
            case 4: case 5: case 6: return made.shiftOn(what - 4);
            case 7: return made.blocksOnAll();
            case 8: return made.runs();
            case 9: return made.unlikeEntries();
            case 10: case 11: case 12: return floatBits(floatAt(made.lost, what - 10));
            case 13: return made.way;
            case 14: return made.wide;
            case 15: return made.high;
            default: return made.errorOn(what);
        }
    }

    public int used(int entry) {
        if (!isWithin(entry, 0, MOST_ENTRIES - 1)) {
            return BAD;
        }
        return now.sheet.isMade() ? now.sheet.pixelsWith(entry) : STATE;
    }

    public int taken(int k) {
        if (!isWithin(k, PLAIN, TURNED)) {
            return BAD;
        }
        if (!now.sheet.isMade()) {
            return NOTHING;
        }
        return isUnder(now.sheet.way, k) ? now.sheet.way : CAST;
    }

    // ---- what would be

    public int best(int picture, int palette, int what) {
        Picture shown = now.pictureAt(picture);
        Palette mixed = now.paletteAt(palette);
        if (shown == null || mixed == null || !isWithin(what, 0, 1)) {
            return NONE;
        }
        if (mixed.size == 0) {
            return STATE;
        }
        if (lacksWork(5)) {
            return FULL;
        }
        work += 5;
        int bestWay = NEVER;
        int least = NEVER;
        for (int way = PLAIN; way <= TURNED; way++) {
            trial.sheet.makeFrom(shown, mixed, way, now.rules);
            int blocks = trial.sheet.blocksOnAll();
            if (bestWay == NEVER || blocks < least) {
                least = blocks;
                bestWay = way;
            }
        }
        return what == 0 ? bestWay : least;
    }

    public int see(int x, int y, int entry) {
        if (x == -1) {
            now.seen.clear();
            return 0;
        }
        if (!isWithin(x, 0, MOST_WIDE - 1) || !isWithin(y, 0, MOST_HIGH - 1)
                || !isWithin(entry, 0, MOST_ENTRIES - 1)) {
            return BAD;
        }
        return now.seen.isFull() ? FULL : now.seen.append(x, y, entry);
    }

    public int fits(int picture, int palette, int what) {
        Picture shown = now.pictureAt(picture);
        Palette mixed = now.paletteAt(palette);
        if (shown == null || mixed == null || !isWithin(what, 0, 1)) {
            return NONE;
        }
        if (mixed.size == 0) {
            return STATE;
        }
        if (lacksWork(64)) {
            return FULL;
        }
        work += 64;
        int fitting = 0;
        int least = NEVER;
        copyInts(now.rules, trial.rules);
        trial.sheet.begin(shown, SCREEN);
        for (int strength = 63; strength >= 0; strength--) {
            put(trial.rules, STRENGTH, strength);
            if (trial.sheet.isAsSeen(now.seen, mixed, trial.rules)) {
                fitting++;
                least = strength;
            }
        }
        return what == 0 ? fitting : least;
    }

    public long odds(int palette, int entry, int part) {
        Palette mixed = now.paletteAt(palette);
        if (mixed == null || !mixed.has(entry) || !isWithin(part, 0, 1)) {
            return NO;
        }
        int hits = 0;
        for (int i = 0; i < 512; i++) {
            // 9 times each of three octal digits: 0, 9, .., 63 on each channel
            int colour = 9 * ((i >> 6) * 4096 + ((i >> 3) & 7) * 64 + (i & 7));
            if (mixed.nearestTo(colour, now.ruleOf(METRIC), NO_ENTRY) == entry) {
                hits++;
            }
        }
        return lowestPart(hits, 512, part);
    }

    public int spared(int picture, int palette, int what) {
        Picture shown = now.pictureAt(picture);
        Palette mixed = now.paletteAt(palette);
        if (shown == null || mixed == null || !isWithin(what, 0, 1)) {
            return NONE;
        }
        if (lacksWork(17)) {
            return FULL;
        }
        work += 17;
        int best = NEVER;
        int least = NEVER;
        for (int entry = 0; entry < mixed.size && mixed.size > 1; entry++) {
            if (mixed.isLocked(entry)) {
                continue;
            }
            int error = mixed.errorWithout(entry, shown, now.ruleOf(METRIC));
            if (best == NEVER || error < least) {
                best = entry;
                least = error;
            }
        }
        return what == 0 ? best : least;
    }

    public int plan(int what, int n) {
        if (what == -1) {
            now.plan.clear();
            return 0;
        }
        if (!isWithin(what, REFINE_ROW, DROP_ROW)) {
            return NONE;
        }
        if (!isWithin(n, 0, at(TOP_PLANNED, what))) {
            return what == REFINE_ROW ? NONE : BAD;
        }
        return now.plan.isFull() ? FULL : now.plan.append(what, n, 0);
    }

    public int ends(int what) {
        if (!isWithin(what, 0, 1)) {
            return NONE;
        }
        if (lacksWork(1)) {
            return FULL;
        }
        work += 1;
        trial.become(now);
        for (int row = 0; row < trial.plan.rows; row++) {
            followRow(trial.plan.cell(row, 0), trial.plan.cell(row, 1));
        }
        Picture shown = trial.pictureAt(0);
        Palette mixed = trial.paletteAt(0);
        if (shown == null || mixed == null || mixed.size == 0) {
            return NEVER;
        }
        trial.sheet.makeFrom(shown, mixed, SPREAD, trial.rules);
        return what == 0 ? trial.sheet.errorOnAll() : trial.sheet.blocksOnAll();
    }

    public int book(int palette, int many) {
        if (palette == -1) {
            now.book.clear();
            return 0;
        }
        if (now.paletteAt(palette) == null) {
            return NONE;
        }
        if (!isWithin(many, 0, MOST_ENTRIES)) {
            return BAD;
        }
        return now.book.isFull() ? FULL : now.book.append(palette, many, 0);
    }

    public int looked() {
        for (int row = 0; row < now.book.rows; row++) {
            Palette mixed = now.paletteAt(now.book.cell(row, 0));
            if (mixed == null || mixed.size != now.book.cell(row, 1)) {
                return row;
            }
        }
        return NEVER;
    }

    // ---- judging, the image, tapes

    public int judge(int tape, int i) {
        Tape row = tapeAt(tape);
        if (row == null) {
            return NONE;
        }
        if (row.sort != EMPTY && row.sort != BYTES) {
            return CAST;
        }
        int pixels = now.sheet.isMade() ? now.sheet.pixels() : 0;
        for (int p = 0; p < pixels; p++) {
            if (i < 0 || i >= row.length - p) {
                return ROW_ENDS + p;
            }
            if (at(row.items, i + p) != at(now.sheet.entries, p)) {
                return p;
            }
        }
        return NEVER;
    }

    public int image() {
        saved.become(now);
        isSaved = true;
        return now.standingPictures();
    }

    public int undo() {
        if (!isSaved) {
            return STATE;
        }
        now.become(saved);
        return now.standingPictures();
    }

    public int count(int what) {
        switch (what) {
            case 0: return now.standingPictures();
            case 1: return now.allEntries();
            case 2: return now.seen.rows;
            case 3: return now.plan.rows;
            case 4: return now.book.rows;
            case 5: return reader.length;
            case 6: return work;
            default: return BAD;
        }
    }

    public int tape(int tape, int sort, int n) {
        Tape row = tapeAt(tape);
        if (row == null) {
            return NONE;
        }
        if (!isWithin(sort, EMPTY, FLOATS) || (sort != EMPTY && n > MOST_ITEMS)) {
            return BAD;
        }
        if (sort != EMPTY && n < 0) {
            return SIZE;
        }
        row.zero(sort, sort == EMPTY ? 0 : n);
        return 1;
    }

    public int item(int tape, int i, long v) {
        Tape row = tapeAt(tape);
        if (row == null) {
            return NONE;
        }
        if (row.sort == EMPTY) {
            return NOTHING;
        }
        if (!isWithin(i, 0, row.length - 1)) {
            return PLACE;
        }
        put(row.items, i, itemOf(row.sort, v));
        return 1;
    }

    public long peek(int tape, int i) {
        Tape row = tapeAt(tape);
        // a tape that holds nothing has length 0
        if (row == null || !isWithin(i, 0, row.length - 1)) {
            return NO;
        }
        return at(row.items, i);
    }

    public int twin(int tape, int other) {
        Tape row = tapeAt(tape);
        Tape source = tapeAt(other);
        if (row == null || source == null) {
            return NONE;
        }
        row.become(source);
        return row.length;
    }

    public int shift(int tape, int i, int other, int j, int n) {
        Tape from = tapeAt(tape);
        Tape to = tapeAt(other);
        if (from == null || to == null) {
            return NONE;
        }
        if (from.sort == EMPTY || to.sort == EMPTY) {
            return NOTHING;
        }
        if (from.sort != to.sort) {
            return CAST;
        }
        if (n < 0 || !isWithin(i, 0, from.length) || !isWithin(j, 0, to.length)
                || n > from.length - i || n > to.length - j) {
            return PLACE;
        }
        moveItems(from, i, to, j, n);
        return n;
    }

    // ---- what several calls need

    private Tape tapeAt(int tape) {
        return tape >= 0 && tape < tapes.length ? tapes[tape] : null;
    }

    private boolean lacksWork(int cost) {
        return work + cost > MOST_WORK;
    }

    private void followRow(int what, int n) {
        if (what == METRIC_ROW || what == KERNEL_ROW) {
            put(trial.rules, what == METRIC_ROW ? METRIC : KERNEL, n);
            return;
        }
        Palette mixed = trial.paletteAt(what == REFINE_ROW ? n : 0);
        Picture shown = trial.pictureAt(0);
        if (what == REFINE_ROW && mixed != null && shown != null) {
            refiner.refineOnce(mixed, shown, trial.ruleOf(METRIC));
        }
        if (what == DROP_ROW && mixed != null && mixed.has(n) && !mixed.isLocked(n)) {
            mixed.remove(n);
        }
    }

    private static void moveItems(Tape from, int i, Tape to, int j, int n) {
        // within one tape the far end goes first if the items go up: none is overwritten unread
        boolean isUp = j > i;
        for (int k = 0; k < n; k++) {
            int step = isUp ? n - 1 - k : k;
            put(to.items, j + step, at(from.items, i + step));
        }
    }

    private static int itemOf(int sort, long v) {
        switch (sort) {
            case BYTES: return (byte) v;
            case SHORTS: return (short) v;
            case FLOATS: return floatBits((float) v);
            default: return (int) v;
        }
    }

    private static boolean isUnder(int way, int kind) {
        int above = way;
        for (int level = 0; level < KIND_ABOVE.length && above >= 0; level++) {
            if (above == kind) {
                return true;
            }
            above = at(KIND_ABOVE, above);
        }
        return false;
    }

    // ---- numbers

    private static boolean isWithin(int v, int least, int most) {
        return v >= least && v <= most;
    }

    private static int at(int[] row, int i) {
        return i >= 0 && i < row.length ? row[i] : 0;
    }

    private static void put(int[] row, int i, int v) {
        if (i >= 0 && i < row.length) {
            row[i] = v;
        }
    }

    private static float floatAt(float[] row, int i) {
        return i >= 0 && i < row.length ? row[i] : 0.0f;
    }

    private static void putFloat(float[] row, int i, float v) {
        if (i >= 0 && i < row.length) {
            row[i] = v;
        }
    }

    private static void copyInts(int[] from, int[] to) {
        for (int i = 0; i < from.length && i < to.length; i++) {
            to[i] = from[i];
        }
    }

    private static void zeroInts(int[] row) {
        for (int i = 0; i < row.length; i++) {
            row[i] = 0;
        }
    }

    private static void copyFloats(float[] from, float[] to) {
        for (int i = 0; i < from.length && i < to.length; i++) {
            to[i] = from[i];
        }
    }

    private static void zeroFloats(float[] row) {
        for (int i = 0; i < row.length; i++) {
            row[i] = 0.0f;
        }
    }

    /** One part of a fraction in lowest terms: 0 what is above the line, else what is below. */
    private static int lowestPart(int above, int below, int part) {
        int divisor = below;
        int rest = above;
        for (int step = 0; step < 100 && rest > 0; step++) {
            int next = divisor % rest;
            divisor = rest;
            rest = next;
        }
        if (divisor <= 0) {
            return 0;
        }
        return part == 0 ? above / divisor : below / divisor;
    }

    /** To the nearest, halves up. */
    private static int roundedMean(int sum, int many) {
        return many > 0 ? (2 * sum + many) / (2 * many) : 0;
    }

    /** The float's bits by arithmetic alone; it is finite, and no sum here is ever -0. */
    private static int floatBits(float v) {
        if (v == 0.0f) {
            return 0;
        }
        int sign = v < 0.0f ? 1 << 31 : 0;
        float rest = v < 0.0f ? -v : v;
        int power = 127;
        while (rest >= 2.0f && power < 254) {
            rest = rest / 2.0f;
            power++;
        }
        while (rest < 1.0f && power > -22) {
            rest = rest * 2.0f;
            power--;
        }
        int digits = (int) (rest * 8388608.0f);
        if (power <= 0) {
            return sign | (digits >> (1 - power));
        }
        return sign | (power << 23) | (digits & 8388607);
    }

    // ---- colours

    private static boolean isColour(int colour) {
        return isWithin(colour, 0, TOP_COLOUR);
    }

    private static int channelOf(int colour, int channel) {
        return (colour >> (12 - 6 * channel)) & TOP_CHANNEL;
    }

    private static int farBetween(int metric, int one, int other) {
        int red = Math.abs(channelOf(one, 0) - channelOf(other, 0));
        int green = Math.abs(channelOf(one, 1) - channelOf(other, 1));
        int blue = Math.abs(channelOf(one, 2) - channelOf(other, 2));
        switch (metric) {
            case WEIGHTED: return 2 * red * red + 4 * green * green + 3 * blue * blue;
            case GREATEST: return Math.max(red, Math.max(green, blue));
            case STREETS: return red + green + blue;
            default: return red * red + green * green + blue * blue;
        }
    }

    /** The colour so many of the steps on the way from one to another, cut on each channel. */
    private static int blend(int from, int to, int step, int steps) {
        if (steps <= 0) {
            return from;
        }
        int colour = 0;
        for (int c = 0; c < CHANNELS; c++) {
            int both = channelOf(from, c) * (steps - step) + channelOf(to, c) * step;
            colour = colour * 64 + both / steps;
        }
        return colour;
    }

    /** Pixels row by row; a picture of no width is missing. */
    private static final class Picture {
        int wide;
        int high;
        final int[] colours = new int[MOST_PIXELS];

        int pixels() {
            return wide * high;
        }

        boolean holds(int x, int y) {
            return isWithin(x, 0, wide - 1) && isWithin(y, 0, high - 1);
        }

        int placeOf(int x, int y) {
            return y * wide + x;
        }

        int colourAt(int x, int y) {
            return at(colours, placeOf(x, y));
        }

        void blacken(int newWide, int newHigh) {
            wide = newWide;
            high = newHigh;
            zeroInts(colours);
        }

        void drawNoise(int seed) {
            int z = seed;
            for (int p = 0; p < pixels(); p++) {
                int colour = 0;
                for (int c = 0; c < CHANNELS; c++) {
                    z = z * 1103515245 + 12345;
                    colour = colour * 64 + (z >>> 9) % 64;
                }
                put(colours, p, colour);
            }
        }

        void drawShade(int from, int to) {
            for (int y = 0; y < high; y++) {
                for (int x = 0; x < wide; x++) {
                    put(colours, placeOf(x, y), blend(from, to, x, wide - 1));
                }
            }
        }

        int pixelsOf(int colour) {
            int found = 0;
            for (int p = 0; p < pixels(); p++) {
                if (at(colours, p) == colour) {
                    found++;
                }
            }
            return found;
        }

        int sumOn(int channel) {
            int total = 0;
            for (int p = 0; p < pixels(); p++) {
                total += channelOf(at(colours, p), channel);
            }
            return total;
        }

        void become(Picture other) {
            wide = other.wide;
            high = other.high;
            copyInts(other.colours, colours);
        }
    }

    private static final class Palette {
        int size;
        final int[] colours = new int[MOST_ENTRIES];
        final int[] locks = new int[MOST_ENTRIES];

        boolean has(int entry) {
            return isWithin(entry, 0, size - 1);
        }

        boolean isFull() {
            return size >= MOST_ENTRIES;
        }

        int colourOf(int entry) {
            return at(colours, entry);
        }

        boolean isLocked(int entry) {
            return at(locks, entry) == 1;
        }

        int entryWith(int colour) {
            for (int e = 0; e < size; e++) {
                if (colourOf(e) == colour) {
                    return e;
                }
            }
            return NO_ENTRY;
        }

        void append(int colour, boolean isLocked) {
            put(colours, size, colour);
            put(locks, size, isLocked ? 1 : 0);
            size++;
        }

        /** The entry comes, unless its colour is there or there is no room: whether it came. */
        boolean welcome(int colour, boolean isLocked) {
            if (isFull() || entryWith(colour) >= 0) {
                return false;
            }
            append(colour, isLocked);
            return true;
        }

        void remove(int entry) {
            for (int e = entry; e < size - 1; e++) {
                put(colours, e, at(colours, e + 1));
                put(locks, e, at(locks, e + 1));
            }
            size--;
        }

        void keepLocked() {
            int kept = 0;
            for (int e = 0; e < size; e++) {
                if (isLocked(e)) {
                    put(colours, kept, colourOf(e));
                    put(locks, kept, 1);
                    kept++;
                }
            }
            size = kept;
        }

        /** One entry may be left out, as if it were not there. */
        int nearestTo(int colour, int metric, int without) {
            int best = NEVER;
            int least = 0;
            for (int e = 0; e < size; e++) {
                if (e == without) {
                    continue;
                }
                int far = farBetween(metric, colour, colourOf(e));
                if (best == NEVER || far < least) {
                    best = e;
                    least = far;
                }
            }
            return best;
        }

        int nextNearest(int colour, int k, int metric) {
            for (int e = 0; e < size; e++) {
                if (entriesAhead(e, colour, metric) == k) {
                    return e;
                }
            }
            return NEVER;
        }

        private int entriesAhead(int entry, int colour, int metric) {
            int own = farBetween(metric, colour, colourOf(entry));
            int ahead = 0;
            for (int e = 0; e < size; e++) {
                int far = farBetween(metric, colour, colourOf(e));
                if (far < own || (far == own && e < entry)) {
                    ahead++;
                }
            }
            return ahead;
        }

        int errorWithout(int entry, Picture picture, int metric) {
            int error = 0;
            for (int p = 0; p < picture.pixels(); p++) {
                int colour = at(picture.colours, p);
                int other = nearestTo(colour, metric, entry);
                error += farBetween(0, colour, colourOf(other));
            }
            return error;
        }

        void become(Palette other) {
            size = other.size;
            copyInts(other.colours, colours);
            copyInts(other.locks, locks);
        }
    }

    private static final class Sheet {
        int way = UNMADE;
        int wide;
        int high;
        final int[] shown = new int[MOST_PIXELS];
        final int[] entries = new int[MOST_PIXELS];
        final int[] colours = new int[MOST_PIXELS];
        final float[] lost = new float[CHANNELS];
        private final float[] came = new float[CHANNELS * MOST_PIXELS];
        private final float[] held = new float[CHANNELS];

        boolean isMade() {
            return way != UNMADE;
        }

        int pixels() {
            return wide * high;
        }

        void makeFrom(Picture picture, Palette palette, int newWay, int[] rules) {
            begin(picture, newWay);
            for (int y = 0; y < high; y++) {
                boolean isBack = way == SERPENT && y % 2 == 1;
                for (int step = 0; step < wide; step++) {
                    int x = isBack ? wide - 1 - step : step;
                    makePixel(x, y, palette, rules);
                    if (way == SPREAD || way == SERPENT) {
                        spreadFrom(x, y, isBack ? -1 : 1, at(rules, KERNEL));
                    }
                }
            }
        }

        void begin(Picture picture, int newWay) {
            way = newWay;
            wide = picture.wide;
            high = picture.high;
            copyInts(picture.colours, shown);
            zeroFloats(lost);
            zeroFloats(came);
        }

        private void makePixel(int x, int y, Palette palette, int[] rules) {
            int place = y * wide + x;
            int lookedFor = 0;
            for (int c = 0; c < CHANNELS; c++) {
                float wanted = wantedOn(c, x, y, rules);
                float kept = wanted < 0.0f ? 0.0f : wanted > 63.0f ? 63.0f : wanted;
                putFloat(held, c, kept);
                lookedFor = lookedFor * 64 + (int) (kept + 0.5f);
            }
            int entry = palette.nearestTo(lookedFor, at(rules, METRIC), NO_ENTRY);
            put(entries, place, entry);
            put(colours, place, palette.colourOf(entry));
        }

        private float wantedOn(int channel, int x, int y, int[] rules) {
            int place = y * wide + x;
            float own = (float) channelOf(at(shown, place), channel);
            if (way == SCREEN || way == TURNED) {
                return own + screenedBy(channel, x, y, at(rules, SCREEN_RULE), at(rules, STRENGTH));
            }
            return way == PLAIN ? own : own + floatAt(came, CHANNELS * place + channel);
        }

        private float screenedBy(int channel, int x, int y, int screen, int strength) {
            int width = at(SCREEN_WIDTH, screen);
            if (width <= 0) {
                return 0.0f;
            }
            int all = width * width;
            boolean isAcross = way == TURNED && channel == 1;
            int column = (isAcross ? y : x) % width;
            int row = (isAcross ? x : y) % width;
            int m = at(SCREEN_NUMBERS, at(SCREEN_FROM, screen) + row * width + column);
            if (way == TURNED && channel == 2) {
                m = all - 1 - m;
            }
            return (float) strength * (((float) m + 0.5f) / (float) all - 0.5f);
        }

        private void spreadFrom(int x, int y, int right, int kernel) {
            int whole = at(KERNEL_WHOLE, kernel);
            int end = at(KERNEL_FROM, kernel + 1);
            int colour = at(colours, y * wide + x);
            for (int part = at(KERNEL_FROM, kernel); part < end; part++) {
                int toX = x + right * at(PARTS, 3 * part);
                int toY = y + at(PARTS, 3 * part + 1);
                for (int c = 0; c < CHANNELS && whole > 0; c++) {
                    float off = floatAt(held, c) - (float) channelOf(colour, c);
                    float share = off * (float) at(PARTS, 3 * part + 2) / (float) whole;
                    passTo(toX, toY, c, share);
                }
            }
        }

        private void passTo(int x, int y, int channel, float share) {
            if (isWithin(x, 0, wide - 1) && isWithin(y, 0, high - 1)) {
                int place = CHANNELS * (y * wide + x) + channel;
                putFloat(came, place, floatAt(came, place) + share);
            } else {
                putFloat(lost, channel, floatAt(lost, channel) + share);
            }
        }

        /** Whether each seen pixel has the seen entry by the way and picture begun with. */
        boolean isAsSeen(Table seen, Palette palette, int[] rules) {
            for (int row = 0; row < seen.rows; row++) {
                int x = seen.cell(row, 0);
                int y = seen.cell(row, 1);
                if (x >= wide || y >= high) {
                    return false;
                }
                makePixel(x, y, palette, rules);
                if (at(entries, y * wide + x) != seen.cell(row, 2)) {
                    return false;
                }
            }
            return true;
        }

        private int shiftAt(int place, int channel) {
            return channelOf(at(colours, place), channel) - channelOf(at(shown, place), channel);
        }

        int errorOn(int channel) {
            int error = 0;
            for (int p = 0; p < pixels(); p++) {
                int off = shiftAt(p, channel);
                error += off * off;
            }
            return error;
        }

        int errorOnAll() {
            return errorOn(0) + errorOn(1) + errorOn(2);
        }

        int shiftOn(int channel) {
            int total = 0;
            for (int p = 0; p < pixels(); p++) {
                total += shiftAt(p, channel);
            }
            return total;
        }

        int blocksOnAll() {
            int total = 0;
            for (int y = 0; y < high; y += 2) {
                for (int x = 0; x < wide; x += 2) {
                    for (int c = 0; c < CHANNELS; c++) {
                        int off = blockShift(x, y, c);
                        total += off * off;
                    }
                }
            }
            return total;
        }

        private int blockShift(int left, int above, int channel) {
            int total = 0;
            for (int y = above; y < above + 2 && y < high; y++) {
                for (int x = left; x < left + 2 && x < wide; x++) {
                    total += shiftAt(y * wide + x, channel);
                }
            }
            return total;
        }

        int runs() {
            int found = 0;
            for (int y = 0; y < high; y++) {
                for (int x = 0; x < wide; x++) {
                    int place = y * wide + x;
                    if (x == 0 || at(entries, place) != at(entries, place - 1)) {
                        found++;
                    }
                }
            }
            return found;
        }

        int pixelsWith(int entry) {
            int found = 0;
            for (int p = 0; p < pixels(); p++) {
                if (at(entries, p) == entry) {
                    found++;
                }
            }
            return found;
        }

        int unlikeEntries() {
            int found = 0;
            for (int e = 0; e < MOST_ENTRIES; e++) {
                if (pixelsWith(e) > 0) {
                    found++;
                }
            }
            return found;
        }

        void become(Sheet other) {
            way = other.way;
            wide = other.wide;
            high = other.high;
            copyInts(other.shown, shown);
            copyInts(other.entries, entries);
            copyInts(other.colours, colours);
            copyFloats(other.lost, lost);
        }
    }

    /** Rows of up to three numbers, told by hand. */
    private static final class Table {
        private final int most;
        private final int[] cells = new int[ROW * MOST_ROWS];
        int rows;

        Table(int most) {
            this.most = most;
        }

        boolean isFull() {
            return rows >= most;
        }

        void clear() {
            rows = 0;
        }

        int append(int first, int second, int third) {
            put(cells, ROW * rows, first);
            put(cells, ROW * rows + 1, second);
            put(cells, ROW * rows + 2, third);
            rows++;
            return rows;
        }

        int cell(int row, int column) {
            return at(cells, ROW * row + column);
        }

        void become(Table other) {
            rows = other.rows;
            copyInts(other.cells, cells);
        }
    }

    /** All that the image keeps. */
    private static final class World {
        private final Picture[] pictures = new Picture[PICTURES];
        private final Palette[] palettes = new Palette[PALETTES];
        final int[] rules = new int[RULES_AT_FIRST.length];
        final Sheet sheet = new Sheet();
        final Table seen = new Table(MOST_SEEN);
        final Table plan = new Table(MOST_ROWS);
        final Table book = new Table(MOST_ROWS);

        World() {
            for (int i = 0; i < pictures.length; i++) {
                pictures[i] = new Picture();
            }
            for (int i = 0; i < palettes.length; i++) {
                palettes[i] = new Palette();
            }
            copyInts(RULES_AT_FIRST, rules);
        }

        /** The picture of that number, missing or not; null if there is no such number. */
        Picture frameAt(int picture) {
            return picture >= 0 && picture < pictures.length ? pictures[picture] : null;
        }

        /** The picture of that number; null if it is missing, too. */
        Picture pictureAt(int picture) {
            Picture frame = frameAt(picture);
            return frame != null && frame.wide > 0 ? frame : null;
        }

        Palette paletteAt(int palette) {
            return palette >= 0 && palette < palettes.length ? palettes[palette] : null;
        }

        int ruleOf(int what) {
            return at(rules, what);
        }

        int standingPictures() {
            int found = 0;
            for (int i = 0; i < PICTURES; i++) {
                if (pictureAt(i) != null) {
                    found++;
                }
            }
            return found;
        }

        int allEntries() {
            int total = 0;
            for (int i = 0; i < PALETTES; i++) {
                Palette palette = paletteAt(i);
                total += palette == null ? 0 : palette.size;
            }
            return total;
        }

        void become(World other) {
            for (int i = 0; i < PICTURES; i++) {
                Picture mine = frameAt(i);
                Picture theirs = other.frameAt(i);
                if (mine != null && theirs != null) {
                    mine.become(theirs);
                }
            }
            for (int i = 0; i < PALETTES; i++) {
                Palette mine = paletteAt(i);
                Palette theirs = other.paletteAt(i);
                if (mine != null && theirs != null) {
                    mine.become(theirs);
                }
            }
            copyInts(other.rules, rules);
            sheet.become(other.sheet);
            seen.become(other.seen);
            plan.become(other.plan);
            book.become(other.book);
        }
    }

    /** Some of a picture's unlike colours: those of the cutter from one place to ahead of another. */
    private static final class Box {
        int from;
        int end;
        int pixels;
        int channel;
        int span;
        int least;
    }

    /** A picture's unlike colours, and the boxes that they are cut into. */
    private static final class Cutter {
        final int[] colours = new int[MOST_PIXELS];
        final int[] pixels = new int[MOST_PIXELS];
        int unlike;
        private final Box[] boxes = new Box[MOST_BOXES];
        private int cutBoxes;

        Cutter() {
            for (int i = 0; i < boxes.length; i++) {
                boxes[i] = new Box();
            }
        }

        /** The unlike colours by their numbers, and how many pixels have each. */
        void gather(Picture picture) {
            unlike = 0;
            for (int p = 0; p < picture.pixels(); p++) {
                tally(at(picture.colours, p));
            }
        }

        private void tally(int colour) {
            int place = unlike;
            while (place > 0 && at(colours, place - 1) >= colour) {
                place--;
            }
            if (place < unlike && at(colours, place) == colour) {
                put(pixels, place, at(pixels, place) + 1);
                return;
            }
            for (int i = unlike; i > place; i--) {
                put(colours, i, at(colours, i - 1));
                put(pixels, i, at(pixels, i - 1));
            }
            put(colours, place, colour);
            put(pixels, place, 1);
            unlike++;
        }

        int commonest(int k) {
            for (int i = 0; i < unlike; i++) {
                if (coloursAhead(i) == k) {
                    return at(colours, i);
                }
            }
            return NEVER;
        }

        private int coloursAhead(int place) {
            int own = at(pixels, place);
            int ahead = 0;
            for (int i = 0; i < unlike; i++) {
                if (at(pixels, i) > own || (at(pixels, i) == own && i < place)) {
                    ahead++;
                }
            }
            return ahead;
        }

        void cutInto(Picture picture, int n) {
            gather(picture);
            cutBoxes = 0;
            openBox(0, unlike);
            for (int step = 1; step < n; step++) {
                Box widest = widestBox();
                if (widest == null) {
                    return;
                }
                sortByChannel(widest);
                int middle = middleOf(widest);
                int end = widest.end;
                widest.end = middle;
                measure(widest);
                openBox(middle, end);
            }
        }

        private void openBox(int from, int end) {
            Box box = rawBox(cutBoxes);
            if (box != null) {
                box.from = from;
                box.end = end;
                measure(box);
                cutBoxes++;
            }
        }

        /** By the order in which they were cut. */
        private Box rawBox(int b) {
            return b >= 0 && b < boxes.length ? boxes[b] : null;
        }

        private void measure(Box box) {
            box.span = -1;
            for (int c = 0; c < CHANNELS; c++) {
                int span = spanOn(box, c);
                if (span > box.span) {
                    box.span = span;
                    box.channel = c;
                }
            }
            box.pixels = 0;
            box.least = TOP_COLOUR;
            for (int i = box.from; i < box.end; i++) {
                box.pixels += at(pixels, i);
                box.least = Math.min(box.least, at(colours, i));
            }
        }

        private int spanOn(Box box, int channel) {
            int least = TOP_CHANNEL;
            int greatest = 0;
            for (int i = box.from; i < box.end; i++) {
                int value = channelOf(at(colours, i), channel);
                least = Math.min(least, value);
                greatest = Math.max(greatest, value);
            }
            return greatest - least;
        }

        private Box widestBox() {
            Box widest = null;
            for (int b = 0; b < cutBoxes; b++) {
                Box box = rawBox(b);
                if (box != null && box.span > 0 && (widest == null || isAhead(box, widest))) {
                    widest = box;
                }
            }
            return widest;
        }

        private static boolean isAhead(Box box, Box other) {
            if (box.span != other.span) {
                return box.span > other.span;
            }
            return box.pixels != other.pixels ? box.pixels > other.pixels : box.least < other.least;
        }

        private void sortByChannel(Box box) {
            for (int i = box.from + 1; i < box.end; i++) {
                int colour = at(colours, i);
                int many = at(pixels, i);
                int place = i;
                while (place > box.from
                        && isBehind(at(colours, place - 1), colour, box.channel)) {
                    put(colours, place, at(colours, place - 1));
                    put(pixels, place, at(pixels, place - 1));
                    place--;
                }
                put(colours, place, colour);
                put(pixels, place, many);
            }
        }

        private static boolean isBehind(int colour, int other, int channel) {
            int value = channelOf(colour, channel);
            int otherValue = channelOf(other, channel);
            return value != otherValue ? value > otherValue : colour > other;
        }

        /** Where the second box begins: behind half of the pixels, but ahead of the last colour. */
        private int middleOf(Box box) {
            int sum = 0;
            for (int i = box.from; i < box.end - 1; i++) {
                sum += at(pixels, i);
                if (2 * sum >= box.pixels) {
                    return i + 1;
                }
            }
            return box.end - 1;
        }

        /** The i-th box by the least colours; null if there is none. */
        Box boxAt(int i) {
            for (int b = 0; b < cutBoxes; b++) {
                Box box = rawBox(b);
                if (box != null && boxesAhead(box) == i) {
                    return box;
                }
            }
            return null;
        }

        private int boxesAhead(Box box) {
            int ahead = 0;
            for (int b = 0; b < cutBoxes; b++) {
                Box other = rawBox(b);
                if (other != null && other.least < box.least) {
                    ahead++;
                }
            }
            return ahead;
        }

        int meanOf(Box box) {
            int mean = 0;
            for (int c = 0; c < CHANNELS; c++) {
                int sum = 0;
                for (int i = box.from; i < box.end; i++) {
                    sum += channelOf(at(colours, i), c) * at(pixels, i);
                }
                mean = mean * 64 + roundedMean(sum, box.pixels);
            }
            return mean;
        }

        void giveMeansTo(Palette palette) {
            for (int i = 0; i < cutBoxes; i++) {
                Box box = boxAt(i);
                if (box != null) {
                    palette.welcome(meanOf(box), false);
                }
            }
        }
    }

    /** Moves entries to the means of the pixels that go to them. */
    private static final class Refiner {
        private final int[] sums = new int[CHANNELS * MOST_ENTRIES];
        private final int[] pixels = new int[MOST_ENTRIES];

        /** Whether an entry changed. */
        boolean refineOnce(Palette palette, Picture picture, int metric) {
            gather(palette, picture, metric);
            boolean isChanged = false;
            for (int e = 0; e < palette.size; e++) {
                if (palette.isLocked(e) || at(pixels, e) == 0) {
                    continue;
                }
                int mean = meanOf(e);
                if (palette.entryWith(mean) < 0) {
                    put(palette.colours, e, mean);
                    isChanged = true;
                }
            }
            return isChanged;
        }

        private void gather(Palette palette, Picture picture, int metric) {
            zeroInts(sums);
            zeroInts(pixels);
            for (int p = 0; p < picture.pixels(); p++) {
                int colour = at(picture.colours, p);
                int entry = palette.nearestTo(colour, metric, NO_ENTRY);
                put(pixels, entry, at(pixels, entry) + 1);
                for (int c = 0; c < CHANNELS; c++) {
                    int place = CHANNELS * entry + c;
                    put(sums, place, at(sums, place) + channelOf(colour, c));
                }
            }
        }

        private int meanOf(int entry) {
            int mean = 0;
            for (int c = 0; c < CHANNELS; c++) {
                mean = mean * 64 + roundedMean(at(sums, CHANNELS * entry + c), at(pixels, entry));
            }
            return mean;
        }
    }

    /** The text, and the colours of its clauses. */
    private static final class Reader {
        private final int[] signs = new int[MOST_SIGNS];
        int length;
        /** How far the last parse came: the fault, if it failed. */
        int place;
        private final int[] found = new int[MOST_CLAUSES * MOST_RAMP];
        private final int[] locks = new int[MOST_CLAUSES * MOST_RAMP];
        private int many;

        void append(int sign) {
            put(signs, length, sign);
            length++;
        }

        /** Whether the text is as it should be. */
        boolean parse() {
            place = 0;
            many = 0;
            for (int clause = 1; clause <= MOST_CLAUSES; clause++) {
                if (!parseClause()) {
                    return false;
                }
                if (place == length) {
                    return true;
                }
                if (clause == MOST_CLAUSES || !passes(';')) {
                    return false;
                }
            }
            return false;
        }

        int giveTo(Palette palette) {
            int came = 0;
            for (int i = 0; i < many; i++) {
                if (palette.welcome(at(found, i), at(locks, i) == 1)) {
                    came++;
                }
            }
            return came;
        }

        private boolean parseClause() {
            int from = parseColour();
            if (from < 0) {
                return false;
            }
            int to = from;
            int shades = 1;
            if (passes('>')) {
                to = parseColour();
                if (to < 0 || !passes(':') || !isWithin(signAt(place), '2', '8')) {
                    return false;
                }
                shades = signAt(place) - '0';
                place++;
            }
            int lock = passes('!') ? 1 : 0;
            for (int i = 0; i < shades; i++) {
                put(found, many, blend(from, to, i, shades - 1));
                put(locks, many, lock);
                many++;
            }
            return true;
        }

        /** -1 if there is none. */
        private int parseColour() {
            int colour = 0;
            for (int c = 0; c < CHANNELS; c++) {
                if (c > 0 && !passes(',')) {
                    return -1;
                }
                int value = parseNumber();
                if (value < 0) {
                    return -1;
                }
                colour = colour * 64 + value;
            }
            return colour;
        }

        /** -1 if there is none, or it is too great. */
        private int parseNumber() {
            if (!isDigit(signAt(place))) {
                return -1;
            }
            int value = signAt(place) - '0';
            place++;
            if (isDigit(signAt(place))) {
                value = 10 * value + signAt(place) - '0';
                if (value > TOP_CHANNEL) {
                    return -1;
                }
                place++;
            }
            return value;
        }

        private boolean passes(int sign) {
            if (signAt(place) != sign) {
                return false;
            }
            place++;
            return true;
        }

        private static boolean isDigit(int sign) {
            return isWithin(sign, '0', '9');
        }

        /** -1 at the end of the text. */
        private int signAt(int i) {
            return i < length ? at(signs, i) : -1;
        }
    }

    /** A row of items of one sort, floats by their bits, or nothing. */
    private static final class Tape {
        int sort = EMPTY;
        int length;
        final int[] items = new int[MOST_ITEMS];

        void zero(int newSort, int newLength) {
            sort = newSort;
            length = newLength;
            zeroInts(items);
        }

        void become(Tape other) {
            sort = other.sort;
            length = other.length;
            copyInts(other.items, items);
        }
    }
}
