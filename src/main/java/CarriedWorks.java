import java.util.Arrays;

/**
 * Old programs carried over: their texts run, read for all ways through them, made anew as cases,
 * held beside the old ones night by night, cut over and back; rows of a file led over between two
 * forms; and images of all that gone back to.
 */
public final class CarriedWorks {
    public static final int NONE = -1;

    private static final int NO_SUCH = -2;
    private static final int REFUSED = -3;
    private static final int FAULTY = -4;
    private static final int NOT_YET = -5;
    private static final int EMPTY = -6;
    private static final int STILL_NEEDS = -6;
    private static final int NO_PLACE = -7;
    private static final int OTHER_WIDTH = -8;
    private static final int NOTHING = -2000000000;

    private static final int PROGRAMS = 8;
    private static final int FIELDS = 8;
    private static final int FIELD_MOST = 9999;
    private static final int SPANNED_MOST = 3;
    private static final int SPAN_EDGE = 99;
    private static final int INPUTS_MOST = 4096;
    private static final int LINES_MOST = 24;
    private static final int ACTS_MOST = 100;
    private static final int WAYS_MOST = 200;
    private static final int CASES_TOLD_MOST = 12;
    private static final int CASES_MADE_MOST = 40;
    private static final int TESTS_MOST = 4;
    private static final int TERMS_MOST = 6;
    private static final int HEAPS_MOST = 60;
    private static final int PRICE_MOST = 999;
    private static final int IMAGES = 3;

    private static final int STAGE_OLD = 0;
    private static final int STAGE_BESIDE = 1;
    private static final int STAGE_LIVE = 2;
    private static final int STAGE_BACK = 3;
    private static final int STAGE_RETIRED = 4;

    private static final int STOP_WELL = 0;
    private static final int STOP_RANGE = 2;
    private static final int STOP_NO_LINE = 3;
    private static final int STOP_ACTS = 4;
    private static final int STOP_NO_CASE = 5;
    private static final int STILL_RUNS = -1;

    private static final int ACT_STOP = 0;
    private static final int ACT_SET = 1;
    private static final int ACT_IF = 2;
    private static final int ACT_GO = 3;

    private static final int OP_LESS = 0;
    private static final int OP_MORE = 1;
    private static final int OP_SAME = 2;

    private static final int STOPS_OTHERWISE = 256;
    private static final int JUDGED_WISH = 2;

    private static final int HEAP_PROGRAM = 0;
    private static final int HEAP_LINE = 1;
    private static final int HEAP_CASE = 2;
    private static final int HEAP_BITS = 3;
    private static final int HEAP_INPUTS = 4;
    private static final int HEAP_JUDGED = 5;
    private static final int HEAP_FIRST = 6;
    private static final int HEAP_CELLS = 7;

    // Calls make nothing: all rows are made here, as long as the document's limits let them become.
    private final Works works = new Works();
    private final Works[] images = new Works[IMAGES];
    private final boolean[] kept = new boolean[IMAGES];
    private final Reader reader = new Reader();
    private final Machine oldSide = new Machine();
    private final Machine newSide = new Machine();
    private final Planner planner = new Planner();
    private final Slots slots = new Slots();
    private final int[] lastFields = new int[FIELDS];
    private int lastDid = NONE;
    private WayTable found = new WayTable();
    // What is being found stays apart from what was found, which a refused call must leave.
    private WayTable spare = new WayTable();

    public CarriedWorks() {
        for (int k = 0; k < IMAGES; k++) {
            images[k] = new Works();
        }
    }

    public int feed(int a, int b, int c, int d, int e) {
        if (!reader.hasRoom(20)) {
            return NONE;
        }
        reader.add(a);
        reader.add(b);
        reader.add(c);
        reader.add(d);
        reader.add(e);
        return reader.length;
    }

    public int end(int n) {
        if (n < 0 || n > reader.length) {
            return NONE;
        }
        reader.length = n;
        return n;
    }

    public int old(int program) {
        Program p = programAt(program);
        if (p == null || p.stage != STAGE_OLD) {
            return NO_SUCH;
        }
        if (!reader.readsOld()) {
            return FAULTY;
        }
        // The texts change places, so that no call makes a new one.
        OldText before = p.oldText;
        p.oldText = reader.oldText;
        reader.oldText = before;
        return p.oldText.size;
    }

    public int renew(int program) {
        Program p = programAt(program);
        if (p == null || !p.mayChange()) {
            return NO_SUCH;
        }
        if (!reader.readsNew()) {
            return FAULTY;
        }
        takeNewText(p);
        return p.newText.size;
    }

    public int fault(int what) {
        if (what == 0) {
            return reader.code;
        }
        return what == 1 ? reader.place : NONE;
    }

    public int span(int program, int field, int low, int high) {
        Program p = programAt(program);
        if (p == null || !p.mayChange() || !isField(field) || !isEdge(low) || !isEdge(high)) {
            return NO_SUCH;
        }
        if (!p.spans(field, low, high)) {
            return REFUSED;
        }
        p.told = NONE;
        return p.inputs;
    }

    public int run(int program, int input) {
        Program p = programAt(program);
        if (p == null || !p.oldText.there || !p.hasInput(input)) {
            return NO_SUCH;
        }
        oldSide.goOld(p, input);
        remember(oldSide, oldSide.acts);
        return oldSide.stop;
    }

    public int runNew(int program, int input) {
        Program p = programAt(program);
        if (p == null || !p.newText.there || !p.hasInput(input)) {
            return NO_SUCH;
        }
        newSide.goNew(p, input);
        remember(newSide, newSide.chosen);
        return newSide.stop;
    }

    public int field(int field) {
        return isField(field) ? lastFields[field] : NONE;
    }

    public int did() {
        return lastDid;
    }

    public int ways(int program) {
        Program p = programAt(program);
        if (p == null || !p.oldText.there) {
            return NO_SUCH;
        }
        if (!spare.collect(p, oldSide, null)) {
            return REFUSED;
        }
        WayTable before = found;
        found = spare;
        spare = before;
        return found.size;
    }

    public int way(int w, int what, int i) {
        return found.tell(w, what, i);
    }

    public int rule(int w, int field, int i) {
        return found.coefficient(w, field, i);
    }

    public int dead() {
        return found.undone;
    }

    public int kinds() {
        return found.distinct();
    }

    public int make(int program) {
        Program p = programAt(program);
        if (p == null || !p.oldText.there || !p.mayChange()) {
            return NO_SUCH;
        }
        reader.newText.beginMade(p.spannedBits());
        if (!spare.collect(p, oldSide, reader.newText)) {
            return REFUSED;
        }
        takeNewText(p);
        return p.newText.size;
    }

    public int wish(int program, int casing, int field, int more) {
        Program p = programAt(program);
        if (p == null || p.stage != STAGE_BESIDE || !isField(field) || !isEdge(more)) {
            return NO_SUCH;
        }
        int at = p.newText.putOf(casing, field);
        if (at == NONE) {
            return NO_SUCH;
        }
        p.newText.sums.addAlone(at + 1, more);
        p.told = NONE;
        works.wishes++;
        return works.wishes;
    }

    public int casing(int program, int casing, int what, int j, int i) {
        Program p = programAt(program);
        return p == null ? NOTHING : p.newText.tell(casing, what, j, i);
    }

    public int unlike(int program) {
        Program p = programAt(program);
        if (p == null || !p.hasBoth()) {
            return NO_SUCH;
        }
        int unlike = 0;
        for (int input = 0; input < p.inputs; input++) {
            if (unlikeBits(p, input) != 0) {
                unlike++;
            }
        }
        return unlike;
    }

    public int parts(int program, int from) {
        Program p = programAt(program);
        if (p == null || !p.hasBoth() || !p.hasInput(from)) {
            return NO_SUCH;
        }
        for (int input = from; input < p.inputs; input++) {
            if (unlikeBits(p, input) != 0) {
                return input;
            }
        }
        return NONE;
    }

    public int where(int program, int input) {
        Program p = programAt(program);
        if (p == null || !p.hasBoth() || !p.hasInput(input)) {
            return NO_SUCH;
        }
        return unlikeBits(p, input);
    }

    public int night(int program, int slot) {
        Program p = programAt(program);
        if (p == null || p.stage != STAGE_BESIDE || !p.hasBoth() || !slots.isSlot(slot)) {
            return NO_SUCH;
        }
        if (!slots.hasNumbers(slot)) {
            return EMPTY;
        }
        int length = slots.lengths[slot];
        for (int i = 0; i < length; i++) {
            long number = slots.number(slot, i);
            if (number < 0 || number >= p.inputs) {
                return NO_PLACE;
            }
        }
        int unlike = 0;
        for (int i = 0; i < length; i++) {
            if (heapsInput(program, p, (int) slots.number(slot, i))) {
                unlike++;
            }
        }
        p.told = unlike;
        works.nights++;
        return unlike;
    }

    public int heaps() {
        return works.heapCount;
    }

    public int heap(int h, int what) {
        if (!works.hasHeap(h) || what < 0 || what >= HEAP_CELLS) {
            return NONE;
        }
        return works.heapCells[h * HEAP_CELLS + what];
    }

    public int judge(int h, int word) {
        if (!works.hasHeap(h) || word < 1 || word > JUDGED_WISH) {
            return NO_SUCH;
        }
        int before = works.heapCells[h * HEAP_CELLS + HEAP_JUDGED];
        works.heapCells[h * HEAP_CELLS + HEAP_JUDGED] = word;
        return before;
    }

    public int calls(int program, int other, int price) {
        if (!isProgram(program) || !isProgram(other) || program == other || price < NONE || price > PRICE_MOST) {
            return NO_SUCH;
        }
        int before = works.prices[program * PROGRAMS + other];
        works.prices[program * PROGRAMS + other] = price;
        return before;
    }

    public int needs(int program, int other) {
        if (!isProgram(program) || !isProgram(other)) {
            return NO_SUCH;
        }
        if (program == other || (works.needersOf(program) & 1 << other) != 0) {
            return NOT_YET;
        }
        works.needed[program] |= 1 << other;
        return 0;
    }

    public int live(int program) {
        Program p = programAt(program);
        if (p == null || !p.mayGoLive()) {
            return NO_SUCH;
        }
        if (p.told != 0) {
            return NOT_YET;
        }
        if ((works.needed[program] & ~works.overBits()) != 0) {
            return STILL_NEEDS;
        }
        p.stage = STAGE_LIVE;
        return 0;
    }

    public int back(int program) {
        Program p = programAt(program);
        if (p == null || p.stage != STAGE_LIVE) {
            return NO_SUCH;
        }
        int needers = works.needersOf(program);
        if ((needers & works.bitsOf(STAGE_RETIRED)) != 0) {
            return NOT_YET;
        }
        int going = needers & works.bitsOf(STAGE_LIVE) | 1 << program;
        works.setStage(going, STAGE_BACK);
        return Integer.bitCount(going);
    }

    public int retire(int program) {
        Program p = programAt(program);
        if (p == null || p.stage != STAGE_LIVE) {
            return NO_SUCH;
        }
        if ((works.callersOf(program) & ~works.overBits()) != 0) {
            return NOT_YET;
        }
        p.stage = STAGE_RETIRED;
        return 0;
    }

    public int state(int program) {
        Program p = programAt(program);
        return p == null ? NO_SUCH : p.stage;
    }

    public int plan(int bits) {
        if (bits < 0 || bits >= 1 << PROGRAMS) {
            return NO_SUCH;
        }
        int over = works.overBits();
        int going = bits & ~over;
        if ((works.neededBy(going) & ~(going | over)) != 0) {
            return NONE;
        }
        return planner.settle(works, going, over);
    }

    public int planned(int i) {
        return i < 0 || i >= planner.size ? NONE : planner.order[i];
    }

    public int form(int m, int k) {
        if (m < 1 || m > 9 || !isEdge(k)) {
            return NO_SUCH;
        }
        works.rows.reform(m, k);
        return 0;
    }

    public int put(int i, int side, int v) {
        if (!works.rows.has(i) || side < 0 || side > 1 || v < -FIELD_MOST || v > FIELD_MOST) {
            return NO_SUCH;
        }
        return works.rows.enter(i, side, v);
    }

    public int lead(int i) {
        return works.rows.has(i) ? works.rows.leadOver(i) : NOTHING;
    }

    public int row(int i, int what) {
        return works.rows.tell(i, what);
    }

    public int check() {
        return works.rows.agreement();
    }

    public int count(int what) {
        switch (what) {
            case 0: return works.linesOfAll();
            case 1: return works.casesOfAll();
            case 2: return Integer.bitCount(works.bitsOf(STAGE_LIVE));
            case 3: return Integer.bitCount(works.bitsOf(STAGE_RETIRED));
            case 4: return Integer.bitCount(works.bitsOf(STAGE_BESIDE));
            case 5: return reader.length;
            case 6: return works.nights;
            case 7: return works.wishes;
            case 8: return works.heapsNotJudged();
            case 9: return slots.filled();
            case 10: return works.rows.lostOfAll();
            default: return NONE;
        }
    }

    public int keep(int k) {
        if (k < 0 || k >= IMAGES) {
            return NO_SUCH;
        }
        images[k].copyFrom(works);
        kept[k] = true;
        return 0;
    }

    public int restore(int k) {
        if (k < 0 || k >= IMAGES) {
            return NO_SUCH;
        }
        if (!kept[k]) {
            return EMPTY;
        }
        works.copyFrom(images[k]);
        return 0;
    }

    public int sheet(int slot, int width, int n) {
        if (!slots.isSlot(slot) || width < 0 || width > 3 || n > Slots.NUMBERS_MOST) {
            return NO_SUCH;
        }
        if (n < 0) {
            return REFUSED;
        }
        slots.lay(slot, width, n);
        return 0;
    }

    public int write(int slot, int i, long v) {
        if (!slots.isSlot(slot)) {
            return NO_SUCH;
        }
        if (!slots.hasNumbers(slot)) {
            return EMPTY;
        }
        if (!slots.hasRange(slot, i, 1)) {
            return NO_PLACE;
        }
        slots.enter(slot, i, v);
        return 0;
    }

    public int paste(int slot, int i, int to, int k, int n) {
        if (!slots.isSlot(slot) || !slots.isSlot(to)) {
            return NO_SUCH;
        }
        if (!slots.hasNumbers(slot) || !slots.hasNumbers(to)) {
            return EMPTY;
        }
        if (slots.widths[slot] != slots.widths[to]) {
            return OTHER_WIDTH;
        }
        if (!slots.hasRange(slot, i, n) || !slots.hasRange(to, k, n)) {
            return NO_PLACE;
        }
        slots.copy(slot, i, to, k, n);
        return 0;
    }

    private static boolean isProgram(int program) {
        return program >= 0 && program < PROGRAMS;
    }

    private static boolean isField(int field) {
        return field >= 0 && field < FIELDS;
    }

    private static boolean isEdge(int number) {
        return number >= -SPAN_EDGE && number <= SPAN_EDGE;
    }

    private static boolean isInRange(int value) {
        return value >= -FIELD_MOST && value <= FIELD_MOST;
    }

    private static boolean holds(int value, int op, int limit) {
        if (op == OP_LESS) {
            return value < limit;
        }
        return op == OP_MORE ? value > limit : value == limit;
    }

    private Program programAt(int program) {
        return isProgram(program) ? works.programs[program] : null;
    }

    private void takeNewText(Program p) {
        NewText before = p.newText;
        p.newText = reader.newText;
        reader.newText = before;
        p.newText.there = true;
        p.stage = STAGE_BESIDE;
        p.told = NONE;
    }

    private void remember(Machine machine, int did) {
        System.arraycopy(machine.fields, 0, lastFields, 0, FIELDS);
        lastDid = did;
    }

    private int unlikeBits(Program p, int input) {
        oldSide.goOld(p, input);
        newSide.goNew(p, input);
        int bits = oldSide.stop == newSide.stop ? 0 : STOPS_OTHERWISE;
        for (int f = 0; f < FIELDS; f++) {
            if (oldSide.fields[f] != newSide.fields[f]) {
                bits |= 1 << f;
            }
        }
        return bits;
    }

    /** Whether the INPUT is UNLIKE and not a WISH. */
    private boolean heapsInput(int program, Program p, int input) {
        int bits = unlikeBits(p, input);
        if (bits == 0) {
            return false;
        }
        int line = oldSide.acts == 0 ? NONE : p.oldText.numbers[oldSide.trace[oldSide.acts - 1]];
        int h = works.heapFor(program, line, newSide.chosen, bits);
        if (h == NONE) {
            return true;
        }
        return works.heapUp(h, input) != JUDGED_WISH;
    }

    /** The TAPE and the reading of both texts; the texts read stand here until they are taken. */
    private static final class Reader {
        private static final int TAPE_MOST = 600;
        private static final int LINE_NUMBER_MOST = 999;
        private static final int WORD_MOST = 4;

        private static final int END = 0;
        private static final int BAD = 1;
        private static final int NUMBER = 2;
        private static final int FIELD = 3;
        private static final int OTHER_WORD = 4;
        private static final int SET = 5;
        private static final int IF = 6;
        private static final int GO = 7;
        private static final int STOP = 8;
        private static final int WHEN = 9;
        private static final int AND = 10;
        private static final int ELSE = 11;

        private static final int CANNOT_STAND = 1;
        private static final int OUT_OF_BOUNDS = 2;
        private static final int ONE_TOO_MANY = 3;
        private static final int[] ALL_FIELDS = {0, 1, 2, 3, 4, 5, 6, 7};

        private final byte[] tape = new byte[TAPE_MOST];
        private int length;
        private final int[] kinds = new int[TAPE_MOST + 1];
        private final int[] values = new int[TAPE_MOST + 1];
        private final int[] places = new int[TAPE_MOST + 1];
        private int tokens;
        private int at;
        private int code;
        private int place = NONE;
        private final int[] sum = new int[FIELDS + 1];
        private OldText oldText = new OldText();
        private NewText newText = new NewText();

        boolean hasRoom(int more) {
            return length + more <= TAPE_MOST;
        }

        void add(int four) {
            for (int shift = 24; shift >= 0; shift -= 8) {
                tape[length] = (byte) (four >> shift);
                length++;
            }
        }

        boolean readsOld() {
            begin();
            oldText.clear();
            boolean well = true;
            for (int line = 0; well && kinds[at] != END && line <= LINES_MOST; line++) {
                well = readLine(line);
            }
            if (well) {
                oldText.findTargets();
                oldText.there = true;
            }
            return well;
        }

        boolean readsNew() {
            begin();
            newText.clear();
            boolean well = true;
            boolean closed = false;
            for (int c = 0; well && kinds[at] != END && c <= CASES_TOLD_MOST; c++) {
                boolean last = kinds[at] == ELSE;
                well = closed ? fail(CANNOT_STAND) : readCase(c);
                closed = last;
            }
            return well;
        }

        private void begin() {
            split();
            at = 0;
            code = 0;
            place = NONE;
            length = 0;
        }

        /** All TOKENS at once, and the end as the last one, so that reading never runs beyond it. */
        private void split() {
            tokens = 0;
            for (int from = 0; from < length; from++) {
                int sign = tape[from];
                if (sign != ' ' && sign != '\n') {
                    from = splitOff(sign, from) - 1;
                    tokens++;
                }
            }
            kinds[tokens] = END;
            places[tokens] = length;
        }

        /** The place behind the TOKEN, which has one byte at least. */
        private int splitOff(int sign, int from) {
            int past = from + 1;
            places[tokens] = from;
            if (isSmall(sign)) {
                while (past < length && isSmall(tape[past])) {
                    past++;
                }
                kinds[tokens] = wordKind(from, past);
                values[tokens] = sign - 'a';
            } else if (isDigit(sign)) {
                while (past < length && isDigit(tape[past])) {
                    past++;
                }
                kinds[tokens] = NUMBER;
                values[tokens] = numberOf(from, past);
            } else {
                kinds[tokens] = isSign(sign) ? sign : BAD;
            }
            return past;
        }

        private static boolean isSmall(int sign) {
            return sign >= 'a' && sign <= 'z';
        }

        private static boolean isDigit(int sign) {
            return sign >= '0' && sign <= '9';
        }

        private static boolean isSign(int sign) {
            switch (sign) {
                case ':': case ';': case '=': case '<': case '>':
                case '+': case '-': case '*': case '{': case '}':
                    return true;
                default:
                    return false;
            }
        }

        /** Letters are put together to one number, a byte each, as a text would be an object. */
        private int wordKind(int from, int past) {
            if (past - from > WORD_MOST) {
                return OTHER_WORD;
            }
            int word = 0;
            for (int i = from; i < past; i++) {
                word = word << 8 | tape[i];
            }
            switch (word) {
                case 'i' << 8 | 'f': return IF;
                case 'g' << 8 | 'o': return GO;
                case 's' << 16 | 'e' << 8 | 't': return SET;
                case 'a' << 16 | 'n' << 8 | 'd': return AND;
                case 's' << 24 | 't' << 16 | 'o' << 8 | 'p': return STOP;
                case 'w' << 24 | 'h' << 16 | 'e' << 8 | 'n': return WHEN;
                case 'e' << 24 | 'l' << 16 | 's' << 8 | 'e': return ELSE;
                default: return word < 'a' + FIELDS ? FIELD : OTHER_WORD;
            }
        }

        /** A number above all bounds stays just above them, that it can't go round. */
        private int numberOf(int from, int past) {
            int number = 0;
            for (int i = from; i < past; i++) {
                number = Math.min(number * 10 + tape[i] - '0', FIELD_MOST + 1);
            }
            return number;
        }

        private boolean fail(int fault) {
            code = fault;
            place = places[at];
            return false;
        }

        private boolean take(int kind) {
            if (kinds[at] != kind) {
                return fail(CANNOT_STAND);
            }
            at++;
            return true;
        }

        /** The number, or NONE behind a FAULT. */
        private int takeNumber() {
            if (kinds[at] != NUMBER || values[at] > FIELD_MOST) {
                fail(kinds[at] == NUMBER ? OUT_OF_BOUNDS : CANNOT_STAND);
                return NONE;
            }
            at++;
            return values[at - 1];
        }

        /** The OP, or NONE behind a FAULT. */
        private int takeOp() {
            int kind = kinds[at];
            int op = kind == '<' ? OP_LESS : kind == '>' ? OP_MORE : kind == '=' ? OP_SAME : NONE;
            if (op == NONE) {
                fail(CANNOT_STAND);
            } else {
                at++;
            }
            return op;
        }

        private boolean readLine(int line) {
            if (kinds[at] != NUMBER) {
                return fail(CANNOT_STAND);
            }
            int above = line == 0 ? 0 : oldText.numbers[line - 1];
            if (values[at] <= above || values[at] > LINE_NUMBER_MOST) {
                return fail(OUT_OF_BOUNDS);
            }
            if (line >= LINES_MOST) {
                return fail(ONE_TOO_MANY);
            }
            oldText.numbers[line] = values[at];
            oldText.size++;
            at++;
            return take(':') && readAct(line) && take(';');
        }

        private boolean readAct(int line) {
            switch (kinds[at]) {
                case SET:
                    oldText.acts[line] = ACT_SET;
                    at++;
                    return readSet(line);
                case IF:
                    oldText.acts[line] = ACT_IF;
                    at++;
                    return readIf(line);
                case GO:
                    oldText.acts[line] = ACT_GO;
                    return readGo(line);
                default:
                    oldText.acts[line] = ACT_STOP;
                    return take(STOP);
            }
        }

        private boolean readSet(int line) {
            oldText.fields[line] = values[at];
            if (!take(FIELD) || !take('=') || !readSum()) {
                return false;
            }
            oldText.sumPlaces[line] = oldText.sums.used;
            oldText.sums.add(sum, 0, FIELDS, ALL_FIELDS, sum[FIELDS]);
            return true;
        }

        private boolean readIf(int line) {
            oldText.fields[line] = values[at];
            int op = take(FIELD) ? takeOp() : NONE;
            int limit = op == NONE ? NONE : takeNumber();
            oldText.ops[line] = op;
            oldText.limits[line] = limit;
            return limit != NONE && readGo(line);
        }

        private boolean readGo(int line) {
            int number = take(GO) ? takeNumber() : NONE;
            oldText.targets[line] = number;
            return number != NONE;
        }

        private boolean readCase(int c) {
            boolean last = kinds[at] == ELSE;
            if (!last && kinds[at] != WHEN) {
                return fail(CANNOT_STAND);
            }
            if (c >= CASES_TOLD_MOST) {
                return fail(ONE_TOO_MANY);
            }
            newText.beginCase();
            at++;
            return (last || readTests()) && take('{') && readPuts();
        }

        private boolean readTests() {
            for (int test = 0; test < TESTS_MOST; test++) {
                if (!readTest()) {
                    return false;
                }
                if (kinds[at] != AND) {
                    return true;
                }
                at++;
            }
            return kinds[at] == '-' ? fail(ONE_TOO_MANY) : readTerm(1, true);
        }

        private boolean readTest() {
            if (!readSum()) {
                return false;
            }
            int op = takeOp();
            int limit = op == NONE ? NONE : takeNumber();
            if (limit == NONE) {
                return false;
            }
            newText.beginTest(op, limit);
            newText.sums.add(sum, 0, FIELDS, ALL_FIELDS, sum[FIELDS]);
            return true;
        }

        private boolean readPuts() {
            newText.beginPuts();
            for (int put = 0; put <= FIELDS && kinds[at] != '}'; put++) {
                if (!readPut()) {
                    return false;
                }
            }
            return take('}');
        }

        private boolean readPut() {
            int letter = values[at];
            if (kinds[at] == FIELD && newText.putOf(newText.size - 1, letter) != NONE) {
                return fail(OUT_OF_BOUNDS);
            }
            if (!take(FIELD) || !take('=') || !readSum()) {
                return false;
            }
            newText.beginPut(letter);
            newText.sums.add(sum, 0, FIELDS, ALL_FIELDS, sum[FIELDS]);
            return take(';');
        }

        /** Leaves the SUM in sum: how often each FIELD, and last what stands alone. */
        private boolean readSum() {
            Arrays.fill(sum, 0);
            int times = 1;
            if (kinds[at] == '-') {
                times = -1;
                at++;
            }
            for (int term = 0; term <= TERMS_MOST; term++) {
                if (!readTerm(times, term == TERMS_MOST)) {
                    return false;
                }
                if (kinds[at] != '+' && kinds[at] != '-') {
                    return true;
                }
                times = kinds[at] == '-' ? -1 : 1;
                at++;
            }
            return false;
        }

        private boolean readTerm(int times, boolean tooMany) {
            int often = kinds[at] == NUMBER ? values[at] : 1;
            if (kinds[at] != NUMBER && kinds[at] != FIELD) {
                return fail(CANNOT_STAND);
            }
            if (often > FIELD_MOST) {
                return fail(OUT_OF_BOUNDS);
            }
            if (tooMany) {
                return fail(ONE_TOO_MANY);
            }
            if (kinds[at] == NUMBER) {
                at++;
                if (kinds[at] != '*') {
                    sum[FIELDS] += times * often;
                    return true;
                }
                at++;
            }
            if (kinds[at] != FIELD) {
                return fail(CANNOT_STAND);
            }
            sum[values[at]] += times * often;
            at++;
            return true;
        }
    }

    /**
     * SUMS one behind the other among other cells. A SUM is: how many FIELDS it has and which, three
     * bits each; what stands alone; how often each of these FIELDS.
     */
    private static final class Sums {
        private static final int HEAD = 2;

        private final int[] cells;
        private int used;

        /** For as many cells as its SUMS can ever have. */
        Sums(int most) {
            cells = new int[most];
        }

        void clear() {
            used = 0;
        }

        void copyFrom(Sums other) {
            used = Math.min(other.used, cells.length);
            System.arraycopy(other.cells, 0, cells, 0, used);
        }

        /** There is always room, as LINES, CASES and TERMS are counted ahead of it. */
        void addCell(int cell) {
            if (used < cells.length) {
                cells[used] = cell;
                used++;
            }
        }

        void add(int[] times, int from, int n, int[] letters, int alone) {
            int shape = 0;
            int terms = 0;
            for (int i = 0; i < n; i++) {
                if (times[from + i] != 0) {
                    shape |= letters[i] << 4 + 3 * terms;
                    terms++;
                }
            }
            addCell(shape | terms);
            addCell(alone);
            for (int i = 0; i < n; i++) {
                if (times[from + i] != 0) {
                    addCell(times[from + i]);
                }
            }
        }

        int behind(int at) {
            return at + HEAD + (cells[at] & 15);
        }

        int valueAt(int at, int[] fields) {
            int terms = cells[at] & 15;
            int letters = cells[at] >> 4;
            int value = cells[at + 1];
            for (int t = 0; t < terms; t++) {
                value += cells[at + HEAD + t] * fields[letters & 7];
                letters >>= 3;
            }
            return value;
        }

        /** The like by letters: each FIELD is a stretch of COEFFICIENTS, its last what stands alone. */
        void valueByLetters(int at, int[] made, int[] into) {
            int terms = cells[at] & 15;
            int letters = cells[at] >> 4;
            Arrays.fill(into, 0);
            into[SPANNED_MOST] = cells[at + 1];
            for (int t = 0; t < terms; t++) {
                int from = (letters & 7) * WayTable.STRETCH;
                for (int i = 0; i < WayTable.STRETCH; i++) {
                    into[i] += cells[at + HEAD + t] * made[from + i];
                }
                letters >>= 3;
            }
        }

        int timesOf(int at, int letter) {
            int terms = cells[at] & 15;
            int letters = cells[at] >> 4;
            for (int t = 0; t < terms; t++) {
                if ((letters & 7) == letter) {
                    return cells[at + HEAD + t];
                }
                letters >>= 3;
            }
            return 0;
        }

        void addAlone(int at, int more) {
            cells[at + 1] += more;
        }
    }

    private static final class OldText {
        private static final int CELLS_MOST = LINES_MOST * (Sums.HEAD + TERMS_MOST);

        private boolean there;
        private int size;
        private final int[] numbers = new int[LINES_MOST];
        private final int[] acts = new int[LINES_MOST];
        private final int[] fields = new int[LINES_MOST];
        private final int[] ops = new int[LINES_MOST];
        private final int[] limits = new int[LINES_MOST];
        private final int[] targets = new int[LINES_MOST];
        private final int[] sumPlaces = new int[LINES_MOST];
        private final Sums sums = new Sums(CELLS_MOST);

        void clear() {
            size = 0;
            sums.clear();
        }

        /** Targets are read as numbers, as a LINE that stands below isn't known yet. */
        void findTargets() {
            for (int line = 0; line < size; line++) {
                if (acts[line] == ACT_GO || acts[line] == ACT_IF) {
                    targets[line] = lineWith(targets[line]);
                }
            }
        }

        private int lineWith(int number) {
            for (int line = 0; line < size; line++) {
                if (numbers[line] == number) {
                    return line;
                }
            }
            return NONE;
        }

        void copyFrom(OldText other) {
            there = other.there;
            size = other.size;
            System.arraycopy(other.numbers, 0, numbers, 0, size);
            System.arraycopy(other.acts, 0, acts, 0, size);
            System.arraycopy(other.fields, 0, fields, 0, size);
            System.arraycopy(other.ops, 0, ops, 0, size);
            System.arraycopy(other.limits, 0, limits, 0, size);
            System.arraycopy(other.targets, 0, targets, 0, size);
            System.arraycopy(other.sumPlaces, 0, sumPlaces, 0, size);
            sums.copyFrom(other.sums);
        }
    }

    /**
     * CASES. Of those that were told TESTS are a word of OP and number and a SUM, PUTS a FIELD and a
     * SUM. Those that were made can have a hundred TESTS each, too many to have room for all: as their
     * TESTS are the ifs of one WAY through the OLD text, which stays as it is from then on, their turns
     * alone are kept, a bit for each if.
     */
    private static final class NewText {
        private static final int LIMIT_BITS = 14;
        private static final int TURN_WORDS = (ACTS_MOST + 31) / 32;
        private static final int TOLD_CELLS = CASES_TOLD_MOST * (TESTS_MOST + FIELDS) * (1 + Sums.HEAD + TERMS_MOST);
        private static final int MADE_CELLS = CASES_MADE_MOST * FIELDS * (1 + Sums.HEAD + SPANNED_MOST);

        private boolean there;
        private boolean made;
        private int madeOf;
        private int size;
        private final int[] testCounts = new int[CASES_MADE_MOST];
        private final int[] firstTests = new int[CASES_MADE_MOST];
        private final int[] putCounts = new int[CASES_MADE_MOST];
        private final int[] firstPuts = new int[CASES_MADE_MOST];
        private final int[] turns = new int[CASES_MADE_MOST * TURN_WORDS];
        private final Sums sums = new Sums(MADE_CELLS > TOLD_CELLS ? MADE_CELLS : TOLD_CELLS);

        void clear() {
            made = false;
            size = 0;
            sums.clear();
        }

        /** CASES are made of the FIELDS in bits, those with a SPAN. */
        void beginMade(int bits) {
            clear();
            made = true;
            madeOf = bits;
        }

        void copyFrom(NewText other) {
            there = other.there;
            made = other.made;
            madeOf = other.madeOf;
            size = other.size;
            System.arraycopy(other.testCounts, 0, testCounts, 0, size);
            System.arraycopy(other.firstTests, 0, firstTests, 0, size);
            System.arraycopy(other.putCounts, 0, putCounts, 0, size);
            System.arraycopy(other.firstPuts, 0, firstPuts, 0, size);
            System.arraycopy(other.turns, 0, turns, 0, size * TURN_WORDS);
            sums.copyFrom(other.sums);
        }

        boolean isFull() {
            return size >= CASES_MADE_MOST;
        }

        void beginCase() {
            testCounts[size] = 0;
            putCounts[size] = 0;
            firstTests[size] = sums.used;
            size++;
        }

        void beginTest(int op, int limit) {
            testCounts[size - 1]++;
            sums.addCell(limit | op << LIMIT_BITS);
        }

        void addTurns(int[] held, int ifs) {
            testCounts[size - 1] = ifs;
            System.arraycopy(held, 0, turns, (size - 1) * TURN_WORDS, TURN_WORDS);
        }

        void beginPuts() {
            firstPuts[size - 1] = sums.used;
        }

        void beginPut(int letter) {
            putCounts[size - 1]++;
            sums.addCell(letter);
        }

        /** The first of the CASES told that counts for these FIELDS. */
        int caseFor(int[] fields) {
            for (int c = 0; c < size; c++) {
                if (countsFor(c, fields)) {
                    return c;
                }
            }
            return NONE;
        }

        private boolean countsFor(int c, int[] fields) {
            int at = firstTests[c];
            for (int test = 0; test < testCounts[c]; test++) {
                int word = sums.cells[at];
                int value = sums.valueAt(at + 1, fields);
                if (!holds(value, word >> LIMIT_BITS, word & (1 << LIMIT_BITS) - 1)) {
                    return false;
                }
                at = sums.behind(at + 1);
            }
            return true;
        }

        /** The one of the CASES made whose ifs all turn so; who turns as it does comes to no other ifs. */
        int caseWith(int[] held) {
            for (int c = 0; c < size; c++) {
                if (turnsSo(c, held)) {
                    return c;
                }
            }
            return NONE;
        }

        private boolean turnsSo(int c, int[] held) {
            for (int i = 0; i < TURN_WORDS; i++) {
                if (turns[c * TURN_WORDS + i] != held[i]) {
                    return false;
                }
            }
            return true;
        }

        /** What CASES were made of has no other FIELDS: those had no SPAN then and were 0. */
        void leaveOthersOut(int[] fields) {
            for (int f = 0; f < FIELDS; f++) {
                if ((madeOf >> f & 1) == 0) {
                    fields[f] = 0;
                }
            }
        }

        /** Where PUT j of a CASE stands, NONE: there is none such. */
        private int putAt(int c, int j) {
            if (j < 0 || j >= putCounts[c]) {
                return NONE;
            }
            int at = firstPuts[c];
            for (int put = 0; put < j; put++) {
                at = sums.behind(at + 1);
            }
            return at;
        }

        /** Where the PUT of a FIELD stands, NONE: there is none such. */
        int putOf(int c, int letter) {
            if (c < 0 || c >= size) {
                return NONE;
            }
            int at = firstPuts[c];
            for (int put = 0; put < putCounts[c]; put++) {
                if (sums.cells[at] == letter) {
                    return at;
                }
                at = sums.behind(at + 1);
            }
            return NONE;
        }

        int tell(int c, int what, int j, int i) {
            if (c < 0 || c >= size || what < 0 || what > 4) {
                return NOTHING;
            }
            if (what < 2) {
                return what == 0 ? testCounts[c] : putCounts[c];
            }
            int at = putAt(c, j);
            if (at == NONE) {
                return NOTHING;
            }
            if (what == 2) {
                return isField(i) ? sums.timesOf(at + 1, i) : NOTHING;
            }
            return what == 3 ? sums.cells[at + 2] : sums.cells[at];
        }
    }

    private static final class Program {
        private int stage = STAGE_OLD;
        private int told = NONE;
        private OldText oldText = new OldText();
        private NewText newText = new NewText();
        private int inputs = 1;
        private int spanned;
        private final int[] letters = new int[SPANNED_MOST];
        private final int[] lows = new int[SPANNED_MOST];
        private final int[] highs = new int[SPANNED_MOST];

        void copyFrom(Program other) {
            stage = other.stage;
            told = other.told;
            oldText.copyFrom(other.oldText);
            newText.copyFrom(other.newText);
            inputs = other.inputs;
            spanned = other.spanned;
            System.arraycopy(other.letters, 0, letters, 0, SPANNED_MOST);
            System.arraycopy(other.lows, 0, lows, 0, SPANNED_MOST);
            System.arraycopy(other.highs, 0, highs, 0, SPANNED_MOST);
        }

        boolean mayChange() {
            return stage == STAGE_OLD || stage == STAGE_BESIDE;
        }

        boolean mayGoLive() {
            return stage == STAGE_BESIDE || stage == STAGE_BACK && newText.size > 0;
        }

        boolean hasBoth() {
            return oldText.there && newText.there;
        }

        boolean hasInput(int input) {
            return input >= 0 && input < inputs;
        }

        /** False, and nothing changes, if the SPANS would be too many or too wide. */
        boolean spans(int letter, int low, int high) {
            int at = 0;
            while (at < spanned && letters[at] < letter) {
                at++;
            }
            boolean hasOne = at < spanned && letters[at] == letter;
            int others = hasOne ? inputs / (highs[at] - lows[at] + 1) : inputs;
            if (low > high) {
                if (hasOne) {
                    removeSpan(at);
                }
                inputs = others;
                return true;
            }
            int then = others * (high - low + 1);
            if (then > INPUTS_MOST || !hasOne && spanned >= SPANNED_MOST) {
                return false;
            }
            if (!hasOne) {
                openSpan(at);
            }
            letters[at] = letter;
            lows[at] = low;
            highs[at] = high;
            inputs = then;
            return true;
        }

        private void removeSpan(int at) {
            spanned--;
            for (int i = at; i < spanned; i++) {
                letters[i] = letters[i + 1];
                lows[i] = lows[i + 1];
                highs[i] = highs[i + 1];
            }
        }

        private void openSpan(int at) {
            for (int i = spanned; i > at; i--) {
                letters[i] = letters[i - 1];
                lows[i] = lows[i - 1];
                highs[i] = highs[i - 1];
            }
            spanned++;
        }

        int spannedBits() {
            int bits = 0;
            for (int i = 0; i < spanned; i++) {
                bits |= 1 << letters[i];
            }
            return bits;
        }

        void beginFields(int input, int[] fields) {
            Arrays.fill(fields, 0);
            int left = input;
            for (int i = spanned - 1; i >= 0; i--) {
                int wide = highs[i] - lows[i] + 1;
                fields[letters[i]] = lows[i] + left % wide;
                left /= wide;
            }
        }
    }

    /** Runs one text with one INPUT, and has then how that went. */
    private static final class Machine {
        private final int[] fields = new int[FIELDS];
        private final int[] values = new int[FIELDS];
        private final byte[] trace = new byte[ACTS_MOST];
        private final int[] turns = new int[NewText.TURN_WORDS];
        private int ifs;
        private int acts;
        private int stop;
        private int chosen;
        private int mark;

        void goOld(Program p, int input) {
            p.beginFields(input, fields);
            goThrough(p.oldText, true);
        }

        /** Unbounded, a SUM beyond -9999 .. 9999 is set, too. */
        private void goThrough(OldText text, boolean bounded) {
            acts = 0;
            ifs = 0;
            Arrays.fill(turns, 0);
            mark = 0;
            stop = STILL_RUNS;
            int line = 0;
            while (stop == STILL_RUNS && line < text.size && acts < ACTS_MOST) {
                trace[acts] = (byte) line;
                mark = mark * 31 + line + 1;
                acts++;
                line = doLine(text, line, bounded);
            }
            if (stop == STILL_RUNS) {
                stop = line < text.size ? STOP_ACTS : STOP_WELL;
            }
        }

        /** The LINE to go on with. */
        private int doLine(OldText text, int line, boolean bounded) {
            int letter = text.fields[line];
            switch (text.acts[line]) {
                case ACT_SET:
                    int value = text.sums.valueAt(text.sumPlaces[line], fields);
                    if (bounded && !isInRange(value)) {
                        stop = STOP_RANGE;
                    } else {
                        fields[letter] = value;
                    }
                    return line + 1;
                case ACT_IF:
                    boolean held = holds(fields[letter], text.ops[line], text.limits[line]);
                    addTurn(held);
                    return held ? jump(text.targets[line]) : line + 1;
                case ACT_GO:
                    return jump(text.targets[line]);
                default:
                    stop = STOP_WELL;
                    return line;
            }
        }

        private void addTurn(boolean held) {
            if (held) {
                turns[ifs / 32] |= 1 << ifs % 32;
            }
            ifs++;
        }

        private int jump(int target) {
            if (target == NONE) {
                stop = STOP_NO_LINE;
                return 0;
            }
            return target;
        }

        void goNew(Program p, int input) {
            NewText text = p.newText;
            p.beginFields(input, fields);
            if (text.made) {
                text.leaveOthersOut(fields);
                goThrough(p.oldText, false);
                chosen = text.caseWith(turns);
                p.beginFields(input, fields);
            } else {
                chosen = text.caseFor(fields);
            }
            stop = STOP_NO_CASE;
            if (chosen != NONE) {
                doPuts(text, chosen);
            }
        }

        /** All SUMS are of the FIELDS as they began, so none is put ahead of the last one. */
        private void doPuts(NewText text, int c) {
            System.arraycopy(fields, 0, values, 0, FIELDS);
            stop = STOP_WELL;
            int at = text.firstPuts[c];
            for (int put = 0; put < text.putCounts[c]; put++) {
                int value = text.sums.valueAt(at + 1, fields);
                if (!isInRange(value)) {
                    stop = STOP_RANGE;
                    return;
                }
                values[text.sums.cells[at]] = value;
                at = text.sums.behind(at + 1);
            }
            System.arraycopy(values, 0, fields, 0, FIELDS);
        }
    }

    /** The WAYS of one PROGRAM, as they were when they were found. */
    private static final class WayTable {
        private static final int STRETCH = SPANNED_MOST + 1;
        private static final int WAY_CELLS = FIELDS * STRETCH;

        private int size;
        private int spanned;
        private int undone;
        private final int[] inputs = new int[WAYS_MOST];
        private final int[] leasts = new int[WAYS_MOST];
        private final int[] stops = new int[WAYS_MOST];
        private final int[] lengths = new int[WAYS_MOST];
        private final int[] marks = new int[WAYS_MOST];
        private final byte[] lines = new byte[WAYS_MOST * ACTS_MOST];
        private final int[] numbers = new int[LINES_MOST];
        private final int[] coefficients = new int[WAYS_MOST * WAY_CELLS];
        private final int[] made = new int[WAY_CELLS];
        private final int[] value = new int[STRETCH];

        /** False: too many WAYS, or too many CASES made of them (cases may be null: none are made). */
        boolean collect(Program p, Machine machine, NewText cases) {
            size = 0;
            spanned = p.spanned;
            undone = (1 << p.oldText.size) - 1;
            System.arraycopy(p.oldText.numbers, 0, numbers, 0, LINES_MOST);
            for (int input = 0; input < p.inputs; input++) {
                machine.goOld(p, input);
                int w = wayLike(machine);
                if (w == NONE) {
                    if (!addWay(p, machine, input, cases)) {
                        return false;
                    }
                } else {
                    inputs[w]++;
                }
            }
            return true;
        }

        private int wayLike(Machine machine) {
            for (int w = 0; w < size; w++) {
                if (marks[w] == machine.mark && isLike(w, machine)) {
                    return w;
                }
            }
            return NONE;
        }

        private boolean isLike(int w, Machine machine) {
            if (stops[w] != machine.stop || lengths[w] != machine.acts) {
                return false;
            }
            for (int i = 0; i < machine.acts; i++) {
                if (lines[w * ACTS_MOST + i] != machine.trace[i]) {
                    return false;
                }
            }
            return true;
        }

        private boolean addWay(Program p, Machine machine, int input, NewText cases) {
            boolean makes = cases != null && machine.stop == STOP_WELL;
            if (size >= WAYS_MOST || makes && cases.isFull()) {
                return false;
            }
            int w = size;
            inputs[w] = 1;
            leasts[w] = input;
            stops[w] = machine.stop;
            lengths[w] = machine.acts;
            marks[w] = machine.mark;
            System.arraycopy(machine.trace, 0, lines, w * ACTS_MOST, machine.acts);
            size++;
            workOut(p, machine);
            if (makes) {
                cases.beginCase();
                cases.addTurns(machine.turns, machine.ifs);
                addPuts(p, cases);
            }
            System.arraycopy(made, 0, coefficients, w * WAY_CELLS, WAY_CELLS);
            return true;
        }

        /** Goes the machine's LINES once more by letters. */
        private void workOut(Program p, Machine machine) {
            Arrays.fill(made, 0);
            for (int i = 0; i < p.spanned; i++) {
                made[p.letters[i] * STRETCH + i] = 1;
            }
            int done = machine.stop == STOP_RANGE ? machine.acts - 1 : machine.acts;
            for (int i = 0; i < machine.acts; i++) {
                int line = machine.trace[i];
                undone &= ~(1 << line);
                if (p.oldText.acts[line] == ACT_SET && i < done) {
                    p.oldText.sums.valueByLetters(p.oldText.sumPlaces[line], made, value);
                    System.arraycopy(value, 0, made, p.oldText.fields[line] * STRETCH, STRETCH);
                }
            }
        }

        private void addPuts(Program p, NewText cases) {
            cases.beginPuts();
            for (int f = 0; f < FIELDS; f++) {
                int from = f * STRETCH;
                cases.beginPut(f);
                cases.sums.add(made, from, p.spanned, p.letters, made[from + SPANNED_MOST]);
            }
        }

        int tell(int w, int what, int i) {
            if (w < 0 || w >= size) {
                return NONE;
            }
            switch (what) {
                case 0: return inputs[w];
                case 1: return leasts[w];
                case 2: return stops[w];
                case 3: return lengths[w];
                case 4: return i < 0 || i >= lengths[w] ? NONE : numbers[lines[w * ACTS_MOST + i]];
                default: return NONE;
            }
        }

        int coefficient(int w, int letter, int i) {
            if (w < 0 || w >= size || !isField(letter) || i < NONE || i >= spanned) {
                return NOTHING;
            }
            return coefficients[w * WAY_CELLS + letter * STRETCH + (i == NONE ? SPANNED_MOST : i)];
        }

        int distinct() {
            int distinct = 0;
            for (int w = 0; w < size; w++) {
                if (!hasKindAhead(w)) {
                    distinct++;
                }
            }
            return distinct;
        }

        private boolean hasKindAhead(int w) {
            for (int v = 0; v < w; v++) {
                if (stops[v] == stops[w] && isOneKind(v, w)) {
                    return true;
                }
            }
            return false;
        }

        private boolean isOneKind(int v, int w) {
            for (int i = 0; i < WAY_CELLS; i++) {
                if (coefficients[v * WAY_CELLS + i] != coefficients[w * WAY_CELLS + i]) {
                    return false;
                }
            }
            return true;
        }
    }

    /** All that an IMAGE keeps. */
    private static final class Works {
        private final Program[] programs = new Program[PROGRAMS];
        private final int[] prices = new int[PROGRAMS * PROGRAMS];
        private final int[] needed = new int[PROGRAMS];
        private final int[] heapCells = new int[HEAPS_MOST * HEAP_CELLS];
        private int heapCount;
        private int nights;
        private int wishes;
        private final Rows rows = new Rows();

        Works() {
            for (int i = 0; i < PROGRAMS; i++) {
                programs[i] = new Program();
            }
            Arrays.fill(prices, NONE);
        }

        void copyFrom(Works other) {
            for (int i = 0; i < PROGRAMS; i++) {
                programs[i].copyFrom(other.programs[i]);
            }
            System.arraycopy(other.prices, 0, prices, 0, prices.length);
            System.arraycopy(other.needed, 0, needed, 0, PROGRAMS);
            heapCount = other.heapCount;
            System.arraycopy(other.heapCells, 0, heapCells, 0, heapCount * HEAP_CELLS);
            nights = other.nights;
            wishes = other.wishes;
            rows.copyFrom(other.rows);
        }

        int bitsOf(int stage) {
            int bits = 0;
            for (int i = 0; i < PROGRAMS; i++) {
                if (programs[i].stage == stage) {
                    bits |= 1 << i;
                }
            }
            return bits;
        }

        /** Those that are LIVE or RETIRED. */
        int overBits() {
            return bitsOf(STAGE_LIVE) | bitsOf(STAGE_RETIRED);
        }

        void setStage(int bits, int stage) {
            for (int i = 0; i < PROGRAMS; i++) {
                if ((bits >> i & 1) != 0) {
                    programs[i].stage = stage;
                }
            }
        }

        /** Those that need a PROGRAM, also by others: each round finds at least one more. */
        int needersOf(int program) {
            int needers = 0;
            for (int round = 0; round < PROGRAMS; round++) {
                for (int i = 0; i < PROGRAMS; i++) {
                    if ((needed[i] & (needers | 1 << program)) != 0) {
                        needers |= 1 << i;
                    }
                }
            }
            return needers;
        }

        int neededBy(int bits) {
            int all = 0;
            for (int i = 0; i < PROGRAMS; i++) {
                if ((bits >> i & 1) != 0) {
                    all |= needed[i];
                }
            }
            return all;
        }

        int callersOf(int program) {
            int callers = 0;
            for (int i = 0; i < PROGRAMS; i++) {
                if (prices[i * PROGRAMS + program] != NONE) {
                    callers |= 1 << i;
                }
            }
            return callers;
        }

        /** One night's price of all calls between those that are over and those that are not. */
        int priceWith(int over) {
            int price = 0;
            for (int call = 0; call < prices.length; call++) {
                int sides = over >> call / PROGRAMS ^ over >> call % PROGRAMS;
                if (prices[call] != NONE && (sides & 1) != 0) {
                    price += prices[call];
                }
            }
            return price;
        }

        boolean hasHeap(int h) {
            return h >= 0 && h < heapCount;
        }

        /** The HEAP of these, a new one without such a one; NONE: there is no room for it. */
        int heapFor(int program, int line, int chosen, int bits) {
            for (int h = 0; h < heapCount; h++) {
                int at = h * HEAP_CELLS;
                if (heapCells[at + HEAP_PROGRAM] == program && heapCells[at + HEAP_LINE] == line
                        && heapCells[at + HEAP_CASE] == chosen && heapCells[at + HEAP_BITS] == bits) {
                    return h;
                }
            }
            if (heapCount >= HEAPS_MOST) {
                return NONE;
            }
            int at = heapCount * HEAP_CELLS;
            heapCells[at + HEAP_PROGRAM] = program;
            heapCells[at + HEAP_LINE] = line;
            heapCells[at + HEAP_CASE] = chosen;
            heapCells[at + HEAP_BITS] = bits;
            heapCells[at + HEAP_INPUTS] = 0;
            heapCells[at + HEAP_JUDGED] = 0;
            heapCount++;
            return heapCount - 1;
        }

        /** As what the HEAP is judged to which the INPUT came. */
        int heapUp(int h, int input) {
            int at = h * HEAP_CELLS;
            if (heapCells[at + HEAP_INPUTS] == 0) {
                heapCells[at + HEAP_FIRST] = input;
            }
            heapCells[at + HEAP_INPUTS]++;
            return heapCells[at + HEAP_JUDGED];
        }

        int heapsNotJudged() {
            int open = 0;
            for (int h = 0; h < heapCount; h++) {
                if (heapCells[h * HEAP_CELLS + HEAP_JUDGED] == 0) {
                    open++;
                }
            }
            return open;
        }

        int linesOfAll() {
            int lines = 0;
            for (int i = 0; i < PROGRAMS; i++) {
                lines += programs[i].oldText.size;
            }
            return lines;
        }

        int casesOfAll() {
            int cases = 0;
            for (int i = 0; i < PROGRAMS; i++) {
                cases += programs[i].newText.size;
            }
            return cases;
        }
    }

    /** Finds the PLAN backwards: of each set of PROGRAMS that are over, what the rest costs at least. */
    private static final class Planner {
        private static final int NEVER = 1 << 29;

        private final int[] costs = new int[1 << PROGRAMS];
        private final int[] order = new int[PROGRAMS];
        private int size;

        int settle(Works works, int going, int over) {
            int least = 0;
            for (int done = going; done >= 0; done--) {
                if ((done & ~going) == 0) {
                    int next = nextBehind(works, done, going, over);
                    least = next == NONE ? 0 : costs[done | 1 << next];
                    costs[done] = least + works.priceWith(over | done);
                }
            }
            size = Integer.bitCount(going);
            int done = 0;
            for (int i = 0; i < size; i++) {
                order[i] = nextBehind(works, done, going, over);
                done |= 1 << order[i];
            }
            return least;
        }

        /** The first PROGRAM with which what remains costs least; NONE: all are over. */
        private int nextBehind(Works works, int done, int going, int over) {
            int best = NONE;
            int least = NEVER;
            for (int i = 0; i < PROGRAMS; i++) {
                boolean waits = (going & ~done & 1 << i) != 0;
                boolean may = waits && (works.needed[i] & ~(done | over)) == 0;
                if (may && costs[done | 1 << i] < least) {
                    best = i;
                    least = costs[done | 1 << i];
                }
            }
            return best;
        }
    }

    /** ROWS of the file at both sides. */
    private static final class Rows {
        private static final int ROWS = 20;
        private static final int TRUE_SIDE = 2;
        private static final int BEHIND = 3;
        private static final int LOST = 4;
        private static final int CELLS = 5;

        private final int[] cells = new int[ROWS * CELLS];
        private int m = 1;
        private int k;

        void copyFrom(Rows other) {
            System.arraycopy(other.cells, 0, cells, 0, cells.length);
            m = other.m;
            k = other.k;
        }

        boolean has(int i) {
            return i >= 0 && i < ROWS;
        }

        void reform(int times, int more) {
            m = times;
            k = more;
            for (int i = 0; i < ROWS; i++) {
                leadOver(i);
            }
        }

        int enter(int i, int side, int v) {
            int at = i * CELLS;
            cells[at + side] = v;
            if (cells[at + TRUE_SIDE] == side) {
                cells[at + BEHIND]++;
            } else {
                cells[at + TRUE_SIDE] = side;
                cells[at + BEHIND] = 1;
            }
            return cells[at + BEHIND];
        }

        int leadOver(int i) {
            int at = i * CELLS;
            cells[at + BEHIND] = 0;
            if (cells[at + TRUE_SIDE] == 0) {
                cells[at + LOST] = 0;
                cells[at + 1] = m * cells[at] + k;
                return cells[at + 1];
            }
            int less = cells[at + 1] - k;
            cells[at + LOST] = Math.floorMod(less, m);
            cells[at] = Math.floorDiv(less, m);
            return cells[at];
        }

        int tell(int i, int what) {
            return has(i) && what >= 0 && what < CELLS ? cells[i * CELLS + what] : NOTHING;
        }

        int agreement() {
            int behind = 0;
            boolean agree = true;
            for (int at = 0; at < cells.length; at += CELLS) {
                if (cells[at + BEHIND] > 0) {
                    behind++;
                }
                agree &= cells[at + 1] == m * cells[at] + k;
            }
            if (behind > 0) {
                return behind;
            }
            return agree ? NONE : REFUSED;
        }

        int lostOfAll() {
            int lost = 0;
            for (int at = 0; at < cells.length; at += CELLS) {
                lost += cells[at + LOST];
            }
            return lost;
        }
    }

    /** SLOTS with their rows of numbers. */
    private static final class Slots {
        private static final int SLOTS = 4;
        private static final int NUMBERS_MOST = 60;

        private final long[] numbers = new long[SLOTS * NUMBERS_MOST];
        private final int[] lengths = new int[SLOTS];
        private final int[] widths = new int[SLOTS];

        Slots() {
            Arrays.fill(lengths, NONE);
        }

        boolean isSlot(int slot) {
            return slot >= 0 && slot < SLOTS;
        }

        boolean hasNumbers(int slot) {
            return lengths[slot] != NONE;
        }

        /** Whether n numbers from i on are in the row; without a sum that could go round. */
        boolean hasRange(int slot, int i, int n) {
            return i >= 0 && n >= 0 && i <= lengths[slot] - n;
        }

        int filled() {
            int filled = 0;
            for (int slot = 0; slot < SLOTS; slot++) {
                if (hasNumbers(slot)) {
                    filled++;
                }
            }
            return filled;
        }

        void lay(int slot, int width, int n) {
            lengths[slot] = n;
            widths[slot] = width;
            for (int i = 0; i < NUMBERS_MOST; i++) {
                numbers[slot * NUMBERS_MOST + i] = 0;
            }
        }

        long number(int slot, int i) {
            return numbers[slot * NUMBERS_MOST + i];
        }

        void enter(int slot, int i, long v) {
            int unused = 64 - (8 << widths[slot]);
            numbers[slot * NUMBERS_MOST + i] = v << unused >> unused;
        }

        void copy(int slot, int i, int to, int k, int n) {
            System.arraycopy(numbers, slot * NUMBERS_MOST + i, numbers, to * NUMBERS_MOST + k, n);
        }
    }
}
