import java.util.Arrays;

/**
 * A codec for differences between two byte strings. It finds the shortest code that makes a target
 * of a source, with copies of the source, repetitions of what was made already, runs and added
 * bytes; writes it as bytes with a check; and reads codes again, also damaged ones, with errors
 * that are told exactly.
 *
 * <p>All rows are made with the object and used again, so that no call makes anything but the
 * exception that it throws.
 */
public final class DeltaCodec {
    private static final int MOST_BYTES = 150;
    private static final int MOST_CODE = 400;
    private static final int MOST_OUTPUT = 300;
    private static final int MOST_FED = 8;
    private static final int MOST_BLOCK = 50;
    private static final int MOST_LEAST = 20;
    private static final int FIRST_LEAST = 3;
    private static final int MOST_VALUE = 255;

    private static final int SOURCE = 0;
    private static final int TARGET = 1;

    private static final int ADD = 0;
    private static final int COPY = 1;
    private static final int REPEAT = 2;
    private static final int RUN = 3;

    private static final int KIND_UNIT = 64;
    private static final int LONG_MARK = 63;
    private static final int NUMBER_UNIT = 128;
    private static final int CHECK_BYTES = 2;
    private static final int CHECK_UNIT = 251;
    private static final int CHECK_SHIFT = 256;

    private static final int NO_ERROR = 0;
    private static final int ENDS_EARLY = 1;
    private static final int BAD_NUMBER = 2;
    private static final int BAD_PLACE = 3;
    private static final int TOO_MUCH = 4;
    private static final int BAD_CHECK = 5;

    private Row source;
    private Row target;
    private final Row code;
    private final Plan plan;
    private final Planner planner;
    private final Decoder decoder;
    private int least;

    public DeltaCodec() {
        source = new Row(MOST_BYTES);
        target = new Row(MOST_BYTES);
        code = new Row(MOST_CODE);
        plan = new Plan();
        planner = new Planner();
        decoder = new Decoder();
        least = FIRST_LEAST;
    }

    // ---- strings

    public int feed(int side, long bytes, int many)
            throws IndexOutOfBoundsException, IllegalArgumentException, IllegalStateException {
        needSide(side);
        needWithin(many, 1, MOST_FED);
        Row row = rowOf(side);
        needRoom(row, many);
        for (int left = many - 1; left >= 0; left--) {
            row.append((int) (bytes >>> (8 * left)) & MOST_VALUE);
        }
        plan.forget();
        return row.count();
    }

    public int fill(int side, int value, int many)
            throws IndexOutOfBoundsException, IllegalArgumentException, IllegalStateException {
        needSide(side);
        needWithin(value, 0, MOST_VALUE);
        needWithin(many, 1, MOST_BYTES);
        Row row = rowOf(side);
        needRoom(row, many);
        for (int i = 0; i < many; i++) {
            row.append(value);
        }
        plan.forget();
        return row.count();
    }

    public int cut(int side, int many) throws IndexOutOfBoundsException, IllegalArgumentException {
        needSide(side);
        Row row = rowOf(side);
        needWithin(many, 0, row.count());
        row.drop(many);
        plan.forget();
        return row.count();
    }

    public int set(int side, int place, int value)
            throws IndexOutOfBoundsException, IllegalArgumentException {
        needSide(side);
        Row row = rowOf(side);
        needPlace(row, place);
        needWithin(value, 0, MOST_VALUE);
        int before = row.at(place);
        row.put(place, value);
        plan.forget();
        return before;
    }

    public int size(int side) throws IndexOutOfBoundsException {
        needSide(side);
        return rowOf(side).count();
    }

    public int byteAt(int side, int place) throws IndexOutOfBoundsException {
        needSide(side);
        Row row = rowOf(side);
        needPlace(row, place);
        return row.at(place);
    }

    public int turn() {
        exchangeRows();
        plan.forget();
        return target.count();
    }

    public int advance() {
        exchangeRows();
        target.clear();
        plan.forget();
        return source.count();
    }

    public int check(int side, int from, int to) throws IndexOutOfBoundsException {
        needSide(side);
        Row row = rowOf(side);
        if (from < 0 || to > row.count() || from > to) {
            throw new IndexOutOfBoundsException("no such part of the string");
        }
        return checkOf(row, from, to);
    }

    public int match(int place, int side) throws IndexOutOfBoundsException {
        needPlace(target, place);
        needSide(side);
        int best = bestMatchPlace(place, side);
        return best < 0 ? 0 : commonLength(rowOf(side), best, place);
    }

    public int matchPlace(int place, int side) throws IndexOutOfBoundsException {
        needPlace(target, place);
        needSide(side);
        return bestMatchPlace(place, side);
    }

    public int blocks(int size) throws IllegalArgumentException {
        needWithin(size, 1, MOST_BLOCK);
        int found = 0;
        int next = 0;
        for (int place = 0; place <= target.count() - size; place++) {
            if (place >= next && isBlockAt(place, size)) {
                found++;
                next = place + size;
            }
        }
        return found;
    }

    // ---- plans

    public int setLeast(int least) throws IllegalArgumentException {
        needWithin(least, 1, MOST_LEAST);
        int before = this.least;
        this.least = least;
        plan.forget();
        return before;
    }

    public int plan() {
        if (!plan.isMade()) {
            planner.makePlan(source, target, least, plan);
        }
        return plan.count();
    }

    public boolean hasPlan() {
        return plan.isMade();
    }

    public int cost() throws IllegalStateException {
        needPlan();
        return plan.codeBytes();
    }

    public int kind(int instruction) throws IllegalStateException, IndexOutOfBoundsException {
        needInstruction(instruction);
        return plan.kindOf(instruction);
    }

    public int length(int instruction) throws IllegalStateException, IndexOutOfBoundsException {
        needInstruction(instruction);
        return plan.lengthOf(instruction);
    }

    public int operand(int instruction) throws IllegalStateException, IndexOutOfBoundsException {
        needInstruction(instruction);
        return plan.operandOf(instruction);
    }

    public int start(int instruction) throws IllegalStateException, IndexOutOfBoundsException {
        needInstruction(instruction);
        return plan.startOf(instruction);
    }

    public int made(int kind) throws IllegalStateException, IndexOutOfBoundsException {
        needPlan();
        if (kind < ADD || kind > RUN) {
            throw new IndexOutOfBoundsException("no such kind");
        }
        int bytes = 0;
        for (int i = 0; i < plan.count(); i++) {
            if (plan.kindOf(i) == kind) {
                bytes += plan.lengthOf(i);
            }
        }
        return bytes;
    }

    public double ratio() throws IllegalStateException {
        needPlan();
        int size = target.count();
        return size == 0 ? 0.0 : (double) (plan.codeBytes() + CHECK_BYTES) / (double) size;
    }

    // ---- codes

    public int encode() throws IllegalStateException {
        needPlan();
        code.clear();
        for (int i = 0; i < plan.count(); i++) {
            writeInstruction(i);
        }
        int check = checkOf(target, 0, target.count());
        code.append(check % CHECK_SHIFT);
        code.append(check / CHECK_SHIFT);
        return code.count();
    }

    public int codeSize() {
        return code.count();
    }

    public int code(int position) throws IndexOutOfBoundsException {
        needPlace(code, position);
        return code.at(position);
    }

    public int setCode(int position, int value)
            throws IndexOutOfBoundsException, IllegalArgumentException {
        needPlace(code, position);
        needWithin(value, 0, MOST_VALUE);
        int before = code.at(position);
        code.put(position, value);
        return before;
    }

    public int cutCode(int many) throws IllegalArgumentException {
        needWithin(many, 0, code.count());
        code.drop(many);
        return code.count();
    }

    public int appendCode(int value) throws IllegalArgumentException, IllegalStateException {
        needWithin(value, 0, MOST_VALUE);
        needRoom(code, 1);
        code.append(value);
        return code.count();
    }

    // ---- decoding

    public int decode() {
        return decoder.readCode(code, source);
    }

    public int errorPosition() {
        return decoder.errorAt();
    }

    public int outputSize() {
        return decoder.product().count();
    }

    public int output(int place) throws IndexOutOfBoundsException {
        needPlace(decoder.product(), place);
        return decoder.product().at(place);
    }

    public int differences() {
        Row product = decoder.product();
        int longer = Math.max(target.count(), product.count());
        int different = 0;
        for (int place = 0; place < longer; place++) {
            boolean both = target.holds(place) && product.holds(place);
            if (!both || target.at(place) != product.at(place)) {
                different++;
            }
        }
        return different;
    }

    public long digest() {
        long d = 101;
        d = digestRow(d, source);
        d = digestRow(d, target);
        d = digestStep(d, least);
        if (plan.isMade()) {
            d = digestPlan(d);
        }
        d = digestRow(d, code);
        return digestStep(d, decoder.product().count());
    }

    // ---- what the face's methods need first

    private static void needSide(int side) {
        if (side != SOURCE && side != TARGET) {
            throw new IndexOutOfBoundsException("no such side");
        }
    }

    private static void needWithin(int value, int smallest, int greatest) {
        if (value < smallest || value > greatest) {
            throw new IllegalArgumentException("a value outside its range");
        }
    }

    private static void needPlace(Row row, int place) {
        if (!row.holds(place)) {
            throw new IndexOutOfBoundsException("no such place");
        }
    }

    private static void needRoom(Row row, int many) {
        if (!row.hasRoom(many)) {
            throw new IllegalStateException("too many bytes");
        }
    }

    private void needPlan() {
        if (!plan.isMade()) {
            throw new IllegalStateException("there is no plan");
        }
    }

    private void needInstruction(int instruction) {
        needPlan();
        if (instruction < 0 || instruction >= plan.count()) {
            throw new IndexOutOfBoundsException("no such instruction");
        }
    }

    // ---- strings, inside

    private Row rowOf(int side) {
        return side == SOURCE ? source : target;
    }

    private void exchangeRows() {
        Row former = source;
        source = target;
        target = former;
    }

    private static int checkOf(Row row, int from, int to) {
        int sum = 0;
        int sumOfSums = 0;
        for (int place = from; place < to; place++) {
            sum = (sum + row.at(place)) % CHECK_UNIT;
            sumOfSums = (sumOfSums + sum) % CHECK_UNIT;
        }
        return CHECK_SHIFT * sumOfSums + sum;
    }

    private int bestMatchPlace(int place, int side) {
        // A REPEAT may run into bytes of its own, but it begins ahead of them.
        int places = side == SOURCE ? source.count() : place;
        int longest = 0;
        int best = -1;
        for (int p = 0; p < places; p++) {
            int common = commonLength(rowOf(side), p, place);
            if (common > longest) {
                longest = common;
                best = p;
            }
        }
        return best;
    }

    private int commonLength(Row row, int p, int place) {
        int most = Math.min(row.count() - p, target.count() - place);
        int common = 0;
        while (common < most && row.at(p + common) == target.at(place + common)) {
            common++;
        }
        return common;
    }

    private boolean isBlockAt(int place, int size) {
        for (int p = 0; p <= source.count() - size; p += Math.max(size, 1)) {
            if (commonLength(source, p, place) >= size) {
                return true;
            }
        }
        return false;
    }

    // ---- codes, inside

    private void writeInstruction(int i) {
        int kind = plan.kindOf(i);
        int n = plan.lengthOf(i);
        code.append(KIND_UNIT * kind + Math.min(n, LONG_MARK));
        if (n >= LONG_MARK) {
            writeNumber(n - LONG_MARK);
        }
        if (kind == ADD) {
            writeTargetBytes(plan.startOf(i), n);
        } else if (kind == RUN) {
            code.append(plan.operandOf(i));
        } else {
            writeNumber(plan.operandOf(i));
        }
    }

    private void writeTargetBytes(int start, int n) {
        for (int k = 0; k < n; k++) {
            code.append(target.at(start + k));
        }
    }

    private void writeNumber(int number) {
        if (number < NUMBER_UNIT) {
            code.append(number);
        } else {
            code.append(NUMBER_UNIT + number % NUMBER_UNIT);
            code.append(number / NUMBER_UNIT);
        }
    }

    // ---- digests, inside

    private static long digestStep(long d, int x) {
        return d * 31 + x;
    }

    private static long digestRow(long d, Row row) {
        long now = digestStep(d, row.count());
        for (int place = 0; place < row.count(); place++) {
            now = digestStep(now, row.at(place));
        }
        return now;
    }

    private long digestPlan(long d) {
        long now = digestStep(d, plan.count());
        for (int i = 0; i < plan.count(); i++) {
            now = digestStep(now, plan.kindOf(i));
            now = digestStep(now, plan.lengthOf(i));
            now = digestStep(now, plan.operandOf(i));
        }
        return now;
    }

    /** Bytes in a row with a fixed room. It answers 0 for a place that is not there. */
    private static final class Row {
        private final int[] bytes;
        private int count;

        Row(int room) {
            bytes = new int[Math.max(room, 0)];
            count = 0;
        }

        int count() {
            return count;
        }

        boolean holds(int place) {
            return place >= 0 && place < count && place < bytes.length;
        }

        boolean hasRoom(int many) {
            return many <= bytes.length - count;
        }

        int at(int place) {
            return holds(place) ? bytes[place] : 0;
        }

        void put(int place, int value) {
            if (holds(place)) {
                bytes[place] = value;
            }
        }

        void append(int value) {
            if (count >= 0 && count < bytes.length) {
                bytes[count] = value;
                count++;
            }
        }

        void drop(int many) {
            if (many >= 0 && many <= count) {
                count -= many;
            }
        }

        void clear() {
            count = 0;
        }
    }

    /** The instructions of a plan, one behind the other. */
    private static final class Plan {
        private final Row kinds;
        private final Row lengths;
        private final Row operands;
        private final Row starts;
        private int codeBytes;
        private boolean isMade;

        Plan() {
            // Each instruction makes at least one byte, so there are never more of them.
            kinds = new Row(MOST_BYTES);
            lengths = new Row(MOST_BYTES);
            operands = new Row(MOST_BYTES);
            starts = new Row(MOST_BYTES);
            codeBytes = 0;
            isMade = false;
        }

        void begin(int bytes) {
            kinds.clear();
            lengths.clear();
            operands.clear();
            starts.clear();
            codeBytes = bytes;
            isMade = true;
        }

        void add(int kind, int n, int operand, int start) {
            kinds.append(kind);
            lengths.append(n);
            operands.append(operand);
            starts.append(start);
        }

        void forget() {
            isMade = false;
        }

        boolean isMade() {
            return isMade;
        }

        int codeBytes() {
            return codeBytes;
        }

        int count() {
            return kinds.count();
        }

        int kindOf(int i) {
            return kinds.at(i);
        }

        int lengthOf(int i) {
            return lengths.at(i);
        }

        int operandOf(int i) {
            return operands.at(i);
        }

        int startOf(int i) {
            return starts.at(i);
        }
    }

    /**
     * Finds the best plan from the end of the target to its beginning. The best instructions from a
     * place on do not depend on those ahead of it, because these make the same bytes in any case;
     * so the best first instruction of each place is all that is kept.
     */
    private static final class Planner {
        // One more than the places of a string, for its end.
        private static final int ROOM = MOST_BYTES + 1;
        // Far above the size of any code.
        private static final int NOT_YET = 1000000;

        private final int[] bytesLeft;
        private final int[] stepsLeft;
        private final int[] kinds;
        private final int[] lengths;
        private final int[] operands;
        private final int[] copyCommon;
        private final int[] repeatCommon;
        private final int[] firstPlaces;

        Planner() {
            bytesLeft = new int[ROOM];
            stepsLeft = new int[ROOM];
            kinds = new int[ROOM];
            lengths = new int[ROOM];
            operands = new int[ROOM];
            copyCommon = new int[ROOM];
            repeatCommon = new int[ROOM];
            firstPlaces = new int[ROOM];
        }

        void makePlan(Row source, Row target, int least, Plan plan) {
            int size = Math.min(target.count(), MOST_BYTES);
            Arrays.fill(copyCommon, 0);
            Arrays.fill(repeatCommon, 0);
            bytesLeft[size] = 0;
            stepsLeft[size] = 0;
            int same = 0;
            for (int place = size - 1; place >= 0; place--) {
                int value = target.at(place);
                same = place + 1 < size && target.at(place + 1) == value ? same + 1 : 1;
                lengthenCommon(copyCommon, source, source.count(), value);
                lengthenCommon(repeatCommon, target, place, value);
                bytesLeft[place] = NOT_YET;
                stepsLeft[place] = NOT_YET;
                // In the order of the document, so that the first of equal offers is the right one.
                offerLengths(place, ADD, size - place, value);
                offerPlaces(place, COPY, source.count(), least);
                offerPlaces(place, REPEAT, place, least);
                offerLengths(place, RUN, same, value);
            }
            listInstructions(size, plan);
        }

        /** Goes from how far the next place of the target is like each place of a row to this one. */
        private static void lengthenCommon(int[] common, Row row, int places, int value) {
            for (int p = 0; p < places && p + 1 < common.length; p++) {
                common[p] = row.at(p) == value ? common[p + 1] + 1 : 0;
            }
        }

        private void offerLengths(int place, int kind, int longest, int value) {
            for (int n = longest; n >= 1; n--) {
                offer(place, kind, n, value);
            }
        }

        private void offerPlaces(int place, int kind, int places, int least) {
            int[] common = kind == COPY ? copyCommon : repeatCommon;
            int longest = 0;
            for (int p = 0; p < places && p < ROOM; p++) {
                for (int n = longest + 1; n <= common[p] && n < ROOM; n++) {
                    firstPlaces[n] = p;
                    longest = n;
                }
            }
            // The first place for a length is also the one with the shortest number.
            for (int n = longest; n >= least && n >= 1; n--) {
                offer(place, kind, n, firstPlaces[n]);
            }
        }

        private void offer(int place, int kind, int n, int operand) {
            int end = place + n;
            if (place < 0 || n < 1 || end >= ROOM) {
                return;
            }
            int bytes = bytesOf(kind, n, operand) + bytesLeft[end];
            int steps = 1 + stepsLeft[end];
            boolean isShorter = bytes < bytesLeft[place];
            boolean isSimpler = bytes == bytesLeft[place] && steps < stepsLeft[place];
            if (isShorter || isSimpler) {
                bytesLeft[place] = bytes;
                stepsLeft[place] = steps;
                kinds[place] = kind;
                lengths[place] = n;
                operands[place] = operand;
            }
        }

        private static int bytesOf(int kind, int n, int operand) {
            int head = n < LONG_MARK ? 1 : 1 + bytesOfNumber(n - LONG_MARK);
            if (kind == ADD) {
                return head + n;
            }
            return kind == RUN ? head + 1 : head + bytesOfNumber(operand);
        }

        private static int bytesOfNumber(int number) {
            return number < NUMBER_UNIT ? 1 : 2;
        }

        private void listInstructions(int size, Plan plan) {
            plan.begin(bytesLeft[0]);
            int next = 0;
            for (int place = 0; place < size && place < ROOM; place++) {
                if (place == next) {
                    plan.add(kinds[place], lengths[place], operands[place], place);
                    next = place + lengths[place];
                }
            }
        }
    }

    /** Reads codes. The first error that is told stays, and nothing is read behind it. */
    private static final class Decoder {
        private final Row product;
        private int position;
        private int limit;
        private int error;
        private int errorAt;
        private int kind;
        private int n;
        // For an ADD the position of its first byte in the code.
        private int operand;

        Decoder() {
            product = new Row(MOST_OUTPUT);
            position = 0;
            limit = 0;
            error = NO_ERROR;
            errorAt = -1;
            kind = ADD;
            n = 0;
            operand = 0;
        }

        Row product() {
            return product;
        }

        int errorAt() {
            return errorAt;
        }

        int readCode(Row code, Row source) {
            product.clear();
            position = 0;
            limit = code.count() - CHECK_BYTES;
            error = NO_ERROR;
            errorAt = -1;
            if (limit < 0) {
                tell(ENDS_EARLY, code.count());
            }
            for (int step = 0; step < limit && position < limit && error == NO_ERROR; step++) {
                int head = position;
                readInstruction(code);
                judgeInstruction(head, source);
                makeBytes(code, source);
            }
            judgeCheck(code);
            return error;
        }

        private void tell(int newError, int at) {
            if (error == NO_ERROR) {
                error = newError;
                errorAt = at;
            }
        }

        private void readInstruction(Row code) {
            int headAt = position;
            int head = nextByte(code);
            kind = head / KIND_UNIT;
            n = head % KIND_UNIT;
            if (n == 0) {
                tell(BAD_NUMBER, headAt);
            }
            if (n == LONG_MARK) {
                n += nextNumber(code);
            }
            if (kind == ADD) {
                operand = position;
                passBytes(n);
            } else {
                operand = kind == RUN ? nextByte(code) : nextNumber(code);
            }
        }

        private int nextByte(Row code) {
            int at = position;
            passBytes(1);
            return error == NO_ERROR ? code.at(at) : 0;
        }

        private int nextNumber(Row code) {
            int low = nextByte(code);
            if (low < NUMBER_UNIT) {
                return low;
            }
            int highAt = position;
            int high = nextByte(code);
            if (high >= NUMBER_UNIT) {
                tell(BAD_NUMBER, highAt);
            }
            return low - NUMBER_UNIT + NUMBER_UNIT * high;
        }

        private void passBytes(int many) {
            if (many > limit - position) {
                tell(ENDS_EARLY, limit);
            }
            if (error == NO_ERROR) {
                position += many;
            }
        }

        private void judgeInstruction(int head, Row source) {
            if (kind == COPY && operand + n > source.count()) {
                tell(BAD_PLACE, head);
            }
            if (kind == REPEAT && operand >= product.count()) {
                tell(BAD_PLACE, head);
            }
            if (!product.hasRoom(n)) {
                tell(TOO_MUCH, head);
            }
        }

        private void makeBytes(Row code, Row source) {
            for (int k = 0; k < n && error == NO_ERROR; k++) {
                product.append(byteToMake(k, code, source));
            }
        }

        private int byteToMake(int k, Row code, Row source) {
            switch (kind) {
                case ADD:
                    return code.at(operand + k);
                case COPY:
                    return source.at(operand + k);
                case REPEAT:
                    return product.at(operand + k);
                default:
                    return operand;
            }
        }

        private void judgeCheck(Row code) {
            int check = checkOf(product, 0, product.count());
            boolean isRight = code.at(limit) == check % CHECK_SHIFT
                    && code.at(limit + 1) == check / CHECK_SHIFT;
            if (!isRight) {
                tell(BAD_CHECK, limit);
            }
        }
    }
}
