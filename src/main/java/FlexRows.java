/**
 * Flexible rows: items with bases, growth and shrinking are laid into lines that wrap, each line
 * shares its room among its items by weights, and the items are set along the line and across it.
 */
public final class FlexRows {
    public static final int NONE = -1001, BAD = -1002, STATE = -1003, FULL = -1004;

    private static final int ITEMS = 16;
    private static final int BYTES = 80;
    private static final int STATES = 8;
    private static final int TEXT_FAULT = -2000;

    // The properties of an item; HIDDEN is kept with them, but change() does not reach it.
    private static final int BASE = 0;
    private static final int GROWTH = 1;
    private static final int SHRINKING = 2;
    private static final int LEAST = 3;
    private static final int GREATEST = 4;
    private static final int MARGIN = 5;
    private static final int RANK = 6;
    private static final int HEIGHT = 7;
    private static final int DEPTH = 8;
    private static final int ACROSS = 9;
    private static final int PROPERTIES = 10;
    private static final int HIDDEN = 10;
    private static final int WISH = 11;
    private static final int FIELDS = 11;

    private static final int[] LOWEST = {0, 0, 0, 0, 0, 0, -9, 1, 0, 0};
    private static final int[] HIGHEST = {400, 9, 9, 400, 400, 20, 9, 100, 50, 4};
    private static final int[] UNWRITTEN = {0, 0, 1, 0, 400, 0, 0, 10, 0, 4};

    // The numbers of the box.
    private static final int WIDTH = 0;
    private static final int ITEM_GAP = 1;
    private static final int LINE_GAP = 2;
    private static final int WRAPS = 3;
    private static final int ALONG = 4;
    private static final int BOX_ACROSS = 5;
    private static final int DIRECTION = 6;
    private static final int NUMBERS = 7;

    private static final int LEAST_WIDTH = 20;
    private static final int GREATEST_WIDTH = 999;
    private static final int[] LOWEST_NUMBER = {LEAST_WIDTH, 0, 0, 0, 0, 0, 0};
    private static final int[] HIGHEST_NUMBER = {GREATEST_WIDTH, 40, 40, 1, 5, 3, 1};
    private static final int[] FIRST_NUMBER = {300, 0, 0, 1, 0, 0, 0};

    // The ways across.
    private static final int AT_BOTTOM = 1;
    private static final int IN_MIDDLE = 2;
    private static final int BY_BASE_LINE = 3;
    private static final int AS_THE_BOX = 4;

    private static final int LIES_LAST = 7;
    private static final int LINE_LAST = 7;
    private static final int COUNT_LAST = 13;
    private static final int COUNT_OF_BOX = 7;

    private final Text text;
    private final State state;
    private final History history;
    private final Order order;
    private final Lines lines;
    private final Places places;
    // Widths are tried out in lines of their own, so that what is laid need not be laid again.
    private final Lines tried;
    private boolean laid;

    public FlexRows() {
        text = new Text();
        state = new State();
        history = new History();
        order = new Order(state);
        lines = new Lines(state, order);
        places = new Places(state, order, lines);
        tried = new Lines(state, order);
        laid = false;
    }

    // ---- text

    public int type(int letter) {
        if (letter < 0 || letter > 127) {
            return BAD;
        }
        return text.append(letter) ? text.length : FULL;
    }

    public int clear() {
        int length = text.length;
        text.length = 0;
        return length;
    }

    // ---- items

    public int insert(int item) {
        if (item < 0 || item > state.items) {
            return BAD;
        }
        int fault = text.read();
        if (fault >= 0) {
            return TEXT_FAULT - fault;
        }
        if (state.items >= ITEMS) {
            return FULL;
        }
        beforeChange();
        state.append(text.values);
        state.carry(state.items - 1, item);
        return state.items;
    }

    public int remove(int item) {
        if (!state.has(item)) {
            return BAD;
        }
        beforeChange();
        state.carry(item, state.items - 1);
        state.items--;
        return state.items;
    }

    public int move(int item, int to) {
        if (!state.has(item) || !state.has(to)) {
            return BAD;
        }
        beforeChange();
        state.carry(item, to);
        layOut();
        return order.placeOf(to);
    }

    public int change(int item, int what, int value) {
        if (!state.has(item) || what < 0 || what >= PROPERTIES) {
            return BAD;
        }
        if (value < LOWEST[what] || value > HIGHEST[what]) {
            return BAD;
        }
        beforeChange();
        int before = state.property(item, what);
        state.put(item, what, value);
        return before;
    }

    public int hide(int item) {
        if (!state.has(item)) {
            return BAD;
        }
        beforeChange();
        int hidden = 1 - state.property(item, HIDDEN);
        state.put(item, HIDDEN, hidden);
        return hidden;
    }

    public int set(int what, int value) {
        if (what < 0 || what >= NUMBERS) {
            return BAD;
        }
        if (value < LOWEST_NUMBER[what] || value > HIGHEST_NUMBER[what]) {
            return BAD;
        }
        beforeChange();
        int before = state.number(what);
        state.setNumber(what, value);
        return before;
    }

    public int undo() {
        if (history.kept == 0) {
            return STATE;
        }
        history.restore(state);
        laid = false;
        return history.kept;
    }

    // ---- what is told; nothing changes

    public int item(int item, int what) {
        if (!state.has(item) || what < 0 || what > WISH) {
            return BAD;
        }
        return what == WISH ? state.wish(item) : state.property(item, what);
    }

    public int lies(int item, int what) {
        if (!state.has(item) || what < 0 || what > LIES_LAST) {
            return BAD;
        }
        if (state.property(item, HIDDEN) != 0) {
            return STATE;
        }
        layOut();
        return lieAt(order.placeOf(item), what);
    }

    public int ordered(int place) {
        if (place < 0) {
            return BAD;
        }
        layOut();
        return place < order.shown ? order.itemAt(place) : NONE;
    }

    public int line(int line, int what) {
        if (line < 0 || what < 0 || what > LINE_LAST) {
            return BAD;
        }
        layOut();
        return line < lines.number ? lineTells(line, what) : NONE;
    }

    public int at(int x, int y) {
        if (x < -2000 || x > 2000 || y < 0 || y > 5000) {
            return BAD;
        }
        layOut();
        for (int place = order.shown - 1; place >= 0; place--) {
            if (places.covers(place, x, y)) {
                return order.itemAt(place);
            }
        }
        return NONE;
    }

    public int leastWidth(int what, int n) {
        boolean askedForLines = what == 0 && n >= 1 && n <= ITEMS;
        boolean askedForRests = what == 1 && n == 0;
        if (!askedForLines && !askedForRests) {
            return BAD;
        }
        order.sort();
        for (int width = LEAST_WIDTH; width <= GREATEST_WIDTH; width++) {
            tried.breakUp(width);
            if (askedForLines ? tried.number <= n : tried.allHaveRoom()) {
                return width;
            }
        }
        return NONE;
    }

    public int count(int what) {
        if (what < 0 || what > COUNT_LAST) {
            return BAD;
        }
        layOut();
        return counted(what);
    }

    public long digest() {
        layOut();
        long hash = 148;
        for (int what = 0; what <= COUNT_LAST; what++) {
            hash = hash * 31 + counted(what);
        }
        for (int item = 0; item < state.items; item++) {
            hash = withItem(hash, item);
        }
        for (int line = 0; line < lines.number; line++) {
            for (int what = 0; what <= LINE_LAST; what++) {
                hash = hash * 31 + lineTells(line, what);
            }
        }
        for (int place = 0; place < order.shown; place++) {
            hash = hash * 31 + order.itemAt(place);
        }
        for (int index = 0; index < text.length; index++) {
            hash = hash * 31 + text.byteAt(index);
        }
        return hash;
    }

    // ---- private

    private void beforeChange() {
        history.record(state);
        laid = false;
    }

    private void layOut() {
        if (laid) {
            return;
        }
        order.sort();
        lines.breakUp(state.number(WIDTH));
        lines.share();
        places.find();
        laid = true;
    }

    private int lieAt(int place, int what) {
        if (place < 0 || place >= order.shown) {
            return NONE;
        }
        int item = order.items[place];
        switch (what) {
            case 0:
                return lines.lineOf(place);
            case 1:
                return place;
            case 2:
                return places.left[place];
            case 3:
                return lines.size[place];
            case 4:
                return places.top[place];
            case 5:
                return places.top[place] + state.above(item);
            case 6:
                return lines.size[place] - order.wish[place];
            default:
                return lines.pass[place];
        }
    }

    private int lineTells(int line, int what) {
        if (line < 0 || line >= lines.number || line >= ITEMS) {
            return NONE;
        }
        switch (what) {
            case 0:
                return lines.end(line) - lines.first[line];
            case 1:
                return lines.first[line];
            case 2:
                return places.lineTop[line];
            case 3:
                return places.lineHeight[line];
            case 4:
                return lines.rest[line];
            case 5:
                return lines.grows[line] ? 1 : 0;
            case 6:
                return lines.passes[line];
            default:
                return lines.filled[line];
        }
    }

    private int counted(int what) {
        switch (what) {
            case 0:
                return state.items;
            case 1:
                return state.items - order.shown;
            case 2:
                return lines.number;
            case 3:
                return places.height;
            case 4:
                return greatestEnd();
            case 5:
                return history.kept;
            case 6:
                return text.length;
            default:
                return state.number(what - COUNT_OF_BOX);
        }
    }

    private int greatestEnd() {
        if (order.shown == 0) {
            return NONE;
        }
        int greatest = places.end(0);
        for (int place = 1; place < order.shown; place++) {
            greatest = Math.max(greatest, places.end(place));
        }
        return greatest;
    }

    private long withItem(long hash, int item) {
        for (int what = 0; what <= HIDDEN; what++) {
            hash = hash * 31 + state.property(item, what);
        }
        hash = hash * 31 + state.wish(item);
        if (state.property(item, HIDDEN) == 0) {
            int place = order.placeOf(item);
            for (int what = 0; what <= LIES_LAST; what++) {
                hash = hash * 31 + lieAt(place, what);
            }
        }
        return hash;
    }

    /** The text, and its reading as an item. */
    private static final class Text {
        final byte[] bytes = new byte[BYTES];
        final int[] values = new int[PROPERTIES];
        int length;
        private int next;
        private int stood;

        boolean append(int letter) {
            if (length < 0 || length >= BYTES) {
                return false;
            }
            bytes[length] = (byte) letter;
            length++;
            return true;
        }

        /** Behind the text stands -1, which is no byte: so the end needs no test of its own. */
        int byteAt(int index) {
            return index >= 0 && index < length && index < BYTES ? bytes[index] : -1;
        }

        /** Returns the fault of the text; -1, with the item in values, if it has none. */
        int read() {
            System.arraycopy(UNWRITTEN, 0, values, 0, PROPERTIES);
            next = 0;
            stood = 0;
            int fault = readNumber(BASE);
            // Each part takes a byte at least, and the text has no more than BYTES of them.
            for (int part = 0; part < BYTES && fault < 0 && next < length; part++) {
                int what = readWord();
                fault = what < 0 ? next : readNumber(what);
            }
            return fault;
        }

        /** Returns the fault, or -1 and stands behind the number and the blanks behind that. */
        private int readNumber(int what) {
            skipBlanks();
            int start = next;
            boolean negative = what == RANK && byteAt(next) == '-';
            if (negative) {
                next++;
            }
            int firstDigit = next;
            int value = 0;
            while (next < firstDigit + 3 && isDigit(byteAt(next))) {
                value = value * 10 + byteAt(next) - '0';
                next++;
            }
            if (next == firstDigit) {
                return next;
            }
            value = negative ? -value : value;
            if (what < 0 || what >= PROPERTIES || value < LOWEST[what] || value > HIGHEST[what]) {
                return start;
            }
            if (isDigit(byteAt(next))) {
                return next;
            }
            values[what] = value;
            skipBlanks();
            return -1;
        }

        /** Returns the property and stands behind the word; or -1, and stands where it stood. */
        private int readWord() {
            int end = next;
            while (end < length && isLetter(byteAt(end))) {
                end++;
            }
            for (int what = GROWTH; what < PROPERTIES; what++) {
                boolean free = (stood >> what & 1) == 0;
                if (free && stands(word(what), end)) {
                    stood |= 1 << what;
                    next = end;
                    return what;
                }
            }
            return -1;
        }

        private boolean stands(String word, int end) {
            if (word.length() != end - next) {
                return false;
            }
            for (int k = 0; k < word.length(); k++) {
                if (word.charAt(k) != byteAt(next + k)) {
                    return false;
                }
            }
            return true;
        }

        private void skipBlanks() {
            while (next < length && byteAt(next) == ' ') {
                next++;
            }
        }

        private static boolean isDigit(int letter) {
            return letter >= '0' && letter <= '9';
        }

        private static boolean isLetter(int letter) {
            return letter >= 'a' && letter <= 'z';
        }

        private static String word(int what) {
            switch (what) {
                case GROWTH:
                    return "grow";
                case SHRINKING:
                    return "shrink";
                case LEAST:
                    return "min";
                case GREATEST:
                    return "max";
                case MARGIN:
                    return "margin";
                case RANK:
                    return "rank";
                case HEIGHT:
                    return "height";
                case DEPTH:
                    return "depth";
                default:
                    return "across";
            }
        }
    }

    /** What changes change and undo() restores: the numbers of the box and the items. */
    private static final class State {
        int items;
        final int[] box = new int[NUMBERS];
        final int[] fields = new int[ITEMS * FIELDS];

        State() {
            System.arraycopy(FIRST_NUMBER, 0, box, 0, NUMBERS);
        }

        boolean has(int item) {
            return item >= 0 && item < items;
        }

        int number(int what) {
            return what >= 0 && what < NUMBERS ? box[what] : 0;
        }

        void setNumber(int what, int value) {
            if (what >= 0 && what < NUMBERS) {
                box[what] = value;
            }
        }

        int property(int item, int what) {
            boolean known = item >= 0 && item < ITEMS && what >= 0 && what < FIELDS;
            return known ? fields[item * FIELDS + what] : 0;
        }

        void put(int item, int what, int value) {
            if (item >= 0 && item < ITEMS && what >= 0 && what < FIELDS) {
                fields[item * FIELDS + what] = value;
            }
        }

        /** A least size above the greatest one is the greatest one, too. */
        int greatest(int item) {
            return Math.max(property(item, LEAST), property(item, GREATEST));
        }

        int wish(int item) {
            return Math.min(Math.max(property(item, BASE), property(item, LEAST)), greatest(item));
        }

        /** How far the base line of an item is below its top. */
        int above(int item) {
            return property(item, HEIGHT) - property(item, DEPTH);
        }

        int wayAcross(int item) {
            int way = property(item, ACROSS);
            return way == AS_THE_BOX ? number(BOX_ACROSS) : way;
        }

        void append(int[] values) {
            for (int what = 0; what < PROPERTIES && what < values.length; what++) {
                put(items, what, values[what]);
            }
            put(items, HIDDEN, 0);
            items++;
        }

        /** Gives an item another number; those between move up or down by one. */
        void carry(int item, int to) {
            for (int k = item; k < to; k++) {
                swap(k, k + 1);
            }
            for (int k = item; k > to; k--) {
                swap(k, k - 1);
            }
        }

        private void swap(int one, int other) {
            for (int what = 0; what < FIELDS; what++) {
                int value = property(one, what);
                put(one, what, property(other, what));
                put(other, what, value);
            }
        }
    }

    /** The latest states, in a ring: the oldest one is overwritten when it is full. */
    private static final class History {
        int kept;
        private int next;
        private final int[] items = new int[STATES];
        private final int[] boxes = new int[STATES * NUMBERS];
        private final int[] fields = new int[STATES * ITEMS * FIELDS];

        void record(State state) {
            int slot = Math.floorMod(next, STATES);
            items[slot] = state.items;
            System.arraycopy(state.box, 0, boxes, slot * NUMBERS, NUMBERS);
            System.arraycopy(state.fields, 0, fields, slot * ITEMS * FIELDS, ITEMS * FIELDS);
            next = Math.floorMod(slot + 1, STATES);
            kept = Math.min(kept + 1, STATES);
        }

        void restore(State state) {
            if (kept == 0) {
                return;
            }
            int slot = Math.floorMod(next - 1, STATES);
            state.items = items[slot];
            System.arraycopy(boxes, slot * NUMBERS, state.box, 0, NUMBERS);
            System.arraycopy(fields, slot * ITEMS * FIELDS, state.fields, 0, ITEMS * FIELDS);
            next = slot;
            kept--;
        }
    }

    /** The items that are not hidden, in their order, with what the lines need of them. */
    private static final class Order {
        int shown;
        final int[] items = new int[ITEMS];
        final int[] base = new int[ITEMS];
        final int[] least = new int[ITEMS];
        final int[] greatest = new int[ITEMS];
        final int[] margin = new int[ITEMS];
        final int[] wish = new int[ITEMS];
        private final State state;

        Order(State state) {
            this.state = state;
        }

        void sort() {
            shown = 0;
            for (int item = 0; item < state.items; item++) {
                if (state.property(item, HIDDEN) == 0) {
                    enter(item);
                }
            }
            for (int place = 0; place < shown; place++) {
                int item = items[place];
                base[place] = state.property(item, BASE);
                least[place] = state.property(item, LEAST);
                greatest[place] = state.greatest(item);
                margin[place] = state.property(item, MARGIN);
                wish[place] = state.wish(item);
            }
        }

        /** Items come by their numbers, so one goes behind those of the same rank. */
        private void enter(int item) {
            if (shown >= ITEMS) {
                return;
            }
            int place = shown;
            int rank = state.property(item, RANK);
            while (place > 0 && state.property(items[place - 1], RANK) > rank) {
                items[place] = items[place - 1];
                place--;
            }
            items[place] = item;
            shown++;
        }

        int itemAt(int place) {
            return place >= 0 && place < shown ? items[place] : NONE;
        }

        int placeOf(int item) {
            for (int place = 0; place < shown; place++) {
                if (items[place] == item) {
                    return place;
                }
            }
            return NONE;
        }

        int outerWish(int place) {
            return wish[place] + 2 * margin[place];
        }

        int weight(int place, boolean growing) {
            int item = items[place];
            return growing ? state.property(item, GROWTH)
                    : state.property(item, SHRINKING) * base[place];
        }

        /** Whether an item keeps its wish, as it cannot follow the growing or shrinking. */
        boolean isStiff(int place, boolean growing) {
            int item = items[place];
            if (growing) {
                return state.property(item, GROWTH) == 0 || base[place] > wish[place];
            }
            return state.property(item, SHRINKING) == 0 || base[place] < wish[place];
        }
    }

    /** The lines for one width, and the sizes of their items, by their places in the order. */
    private static final class Lines {
        private static final int OPEN = -1;

        int number;
        final int[] first = new int[ITEMS];
        final int[] filled = new int[ITEMS];
        final int[] rest = new int[ITEMS];
        final int[] passes = new int[ITEMS];
        final boolean[] grows = new boolean[ITEMS];
        final int[] size = new int[ITEMS];
        final int[] pass = new int[ITEMS];
        private final int[] correction = new int[ITEMS];
        private final State state;
        private final Order order;
        private int width;

        Lines(State state, Order order) {
            this.state = state;
            this.order = order;
        }

        void breakUp(int width) {
            this.width = width;
            number = 0;
            int gap = state.number(ITEM_GAP);
            boolean wraps = state.number(WRAPS) == 1;
            int sum = 0;
            for (int place = 0; place < order.shown; place++) {
                int longer = sum + gap + order.outerWish(place);
                if (number == 0 || wraps && longer > width) {
                    first[number] = place;
                    number++;
                    longer = order.outerWish(place);
                }
                sum = longer;
                filled[number - 1] = sum;
            }
        }

        int end(int line) {
            return line >= 0 && line + 1 < number ? first[line + 1] : order.shown;
        }

        int lineOf(int place) {
            int line = 0;
            while (line + 1 < number && first[line + 1] <= place) {
                line++;
            }
            return line;
        }

        void share() {
            for (int line = 0; line < number; line++) {
                shareLine(line);
            }
        }

        boolean allHaveRoom() {
            for (int line = 0; line < number; line++) {
                shareLine(line);
                if (rest[line] < 0) {
                    return false;
                }
            }
            return true;
        }

        private void shareLine(int line) {
            int from = first[line];
            int to = end(line);
            int room = width - state.number(ITEM_GAP) * (to - from - 1);
            int wishes = 0;
            for (int place = from; place < to; place++) {
                room -= 2 * order.margin[place];
                wishes += order.wish[place];
            }
            boolean growing = wishes < room;
            grows[line] = growing;
            freezeStiff(from, to, growing);
            passes[line] = 0;
            // Each pass freezes an item at least, so there are no more passes than items.
            for (int turn = 1; turn <= ITEMS && hasOpen(from, to); turn++) {
                shareOut(from, to, room, growing);
                freezeCorrected(from, to, turn);
                passes[line] = turn;
            }
            rest[line] = room;
            for (int place = from; place < to; place++) {
                rest[line] -= size[place];
            }
        }

        private void freezeStiff(int from, int to, boolean growing) {
            for (int place = from; place < to; place++) {
                size[place] = order.wish[place];
                pass[place] = order.isStiff(place, growing) ? 0 : OPEN;
            }
        }

        private boolean hasOpen(int from, int to) {
            for (int place = from; place < to; place++) {
                if (pass[place] == OPEN) {
                    return true;
                }
            }
            return false;
        }

        private void shareOut(int from, int to, int room, boolean growing) {
            int free = room;
            int total = 0;
            for (int place = from; place < to; place++) {
                boolean open = pass[place] == OPEN;
                free -= open ? order.base[place] : size[place];
                total += open ? order.weight(place, growing) : 0;
            }
            int shared = Math.max(growing ? free : -free, 0);
            int sum = 0;
            for (int place = from; place < to; place++) {
                if (pass[place] == OPEN) {
                    int before = part(shared, sum, total);
                    sum += order.weight(place, growing);
                    int got = part(shared, sum, total) - before;
                    size[place] = order.base[place] + (growing ? got : -got);
                }
            }
        }

        private static int part(int shared, int sum, int total) {
            return total > 0 ? Math.floorDiv(shared * sum, total) : 0;
        }

        private void freezeCorrected(int from, int to, int turn) {
            int sum = 0;
            for (int place = from; place < to; place++) {
                if (pass[place] == OPEN) {
                    int wrong = size[place];
                    size[place] = Math.min(Math.max(wrong, order.least[place]), order.greatest[place]);
                    correction[place] = size[place] - wrong;
                    sum += correction[place];
                }
            }
            for (int place = from; place < to; place++) {
                boolean sameWay = sum > 0 && correction[place] > 0 || sum < 0 && correction[place] < 0;
                if (pass[place] == OPEN && (sum == 0 || sameWay)) {
                    pass[place] = turn;
                }
            }
        }
    }

    /** Where the lines and their items lie. */
    private static final class Places {
        // No base line is that far above the top of its item: the least height, the greatest depth.
        private static final int LEAST_ABOVE = 1 - 50;

        int height;
        final int[] left = new int[ITEMS];
        final int[] top = new int[ITEMS];
        final int[] lineTop = new int[ITEMS];
        final int[] lineHeight = new int[ITEMS];
        private final State state;
        private final Order order;
        private final Lines lines;

        Places(State state, Order order, Lines lines) {
            this.state = state;
            this.order = order;
            this.lines = lines;
        }

        void find() {
            height = 0;
            for (int line = 0; line < lines.number; line++) {
                setAlong(line);
                int upper = line == 0 ? 0 : height + state.number(LINE_GAP);
                setAcross(line, upper);
                height = upper + lineHeight[line];
            }
        }

        int end(int place) {
            return place >= 0 && place < ITEMS ? left[place] + lines.size[place] : NONE;
        }

        boolean covers(int place, int x, int y) {
            if (place < 0 || place >= order.shown) {
                return false;
            }
            int bottom = top[place] + state.property(order.items[place], HEIGHT);
            return x >= left[place] && x < end(place) && y >= top[place] && y < bottom;
        }

        private void setAlong(int line) {
            int from = lines.first[line];
            int items = lines.end(line) - from;
            boolean mirrored = state.number(DIRECTION) == 1;
            int next = 0;
            for (int k = 0; k < items; k++) {
                int place = from + k;
                int x = next + order.margin[place] + shift(lines.rest[line], k, items);
                int size = lines.size[place];
                left[place] = mirrored ? state.number(WIDTH) - x - size : x;
                next += size + 2 * order.margin[place] + state.number(ITEM_GAP);
            }
        }

        /** How far the rest moves the item k of so many. */
        private int shift(int rest, int k, int items) {
            int way = state.number(ALONG);
            if (way >= 3 && (rest < 0 || items <= 1)) {
                way = way == 3 ? 0 : 2;
            }
            switch (way) {
                case 1:
                    return rest;
                case 2:
                    return Math.floorDiv(rest, 2);
                case 3:
                    return items > 1 ? Math.floorDiv(rest * k, items - 1) : 0;
                case 4:
                    return items > 0 ? Math.floorDiv(rest * (2 * k + 1), 2 * items) : 0;
                case 5:
                    return items > 0 ? Math.floorDiv(rest * (k + 1), items + 1) : 0;
                default:
                    return 0;
            }
        }

        private void setAcross(int line, int upper) {
            int from = lines.first[line];
            int to = lines.end(line);
            int greatest = 0;
            int above = LEAST_ABOVE;
            int below = 0;
            for (int place = from; place < to; place++) {
                int item = order.items[place];
                greatest = Math.max(greatest, state.property(item, HEIGHT));
                if (state.wayAcross(item) == BY_BASE_LINE) {
                    above = Math.max(above, state.above(item));
                    below = Math.max(below, state.property(item, DEPTH));
                }
            }
            // Without an item by base lines this sum is less than any height, and so tells nothing.
            lineTop[line] = upper;
            lineHeight[line] = Math.max(greatest, above + below);
            for (int place = from; place < to; place++) {
                top[place] = upper + lowered(order.items[place], lineHeight[line], above);
            }
        }

        /** How far the top of an item is below that of its line. */
        private int lowered(int item, int lineHigh, int above) {
            int spare = lineHigh - state.property(item, HEIGHT);
            switch (state.wayAcross(item)) {
                case AT_BOTTOM:
                    return spare;
                case IN_MIDDLE:
                    return Math.floorDiv(spare, 2);
                case BY_BASE_LINE:
                    return above - state.above(item);
                default:
                    return 0;
            }
        }
    }
}
