import java.util.ArrayList;
import java.util.List;

/**
 * A second program for the same document, as plain and as slow as it may be, to compare with. It
 * weighs whole plans and writes them to count their bytes, where the class keeps sums.
 */
final class Model {
    /** What went wrong in a code, and where. */
    private static final class Damage extends Exception {
        private static final long serialVersionUID = 1L;
        private final int error;
        private final int position;

        Damage(int error, int position) {
            this.error = error;
            this.position = position;
        }
    }

    private List<Integer> source = new ArrayList<>();
    private List<Integer> target = new ArrayList<>();
    private List<Integer> code = new ArrayList<>();
    private final List<Integer> made = new ArrayList<>();
    private List<int[]> plan = null;
    private int least = 3;
    private int errorPosition = -1;
    private int cursor = 0;

    private static void index(boolean right) {
        if (!right) {
            throw new IndexOutOfBoundsException();
        }
    }

    private static void argument(boolean right) {
        if (!right) {
            throw new IllegalArgumentException();
        }
    }

    private static void state(boolean right) {
        if (!right) {
            throw new IllegalStateException();
        }
    }

    private List<Integer> side(int side) {
        index(side == 0 || side == 1);
        return side == 0 ? source : target;
    }

    int feed(int side, long bytes, int many) {
        List<Integer> string = side(side);
        argument(many >= 1 && many <= 8);
        state(string.size() + many <= 150);
        int end = string.size();
        long rest = bytes;
        for (int i = 0; i < many; i++) {
            string.add(end, (int) (rest & 255));
            rest >>= 8;
        }
        plan = null;
        return string.size();
    }

    int fill(int side, int value, int many) {
        List<Integer> string = side(side);
        argument(value >= 0 && value <= 255 && many >= 1 && many <= 150);
        state(string.size() + many <= 150);
        for (int i = 0; i < many; i++) {
            string.add(value);
        }
        plan = null;
        return string.size();
    }

    int cut(int side, int many) {
        List<Integer> string = side(side);
        argument(many >= 0 && many <= string.size());
        string.subList(string.size() - many, string.size()).clear();
        plan = null;
        return string.size();
    }

    int set(int side, int place, int value) {
        List<Integer> string = side(side);
        index(place >= 0 && place < string.size());
        argument(value >= 0 && value <= 255);
        plan = null;
        return string.set(place, value);
    }

    int size(int side) {
        return side(side).size();
    }

    int byteAt(int side, int place) {
        List<Integer> string = side(side);
        index(place >= 0 && place < string.size());
        return string.get(place);
    }

    int turn() {
        List<Integer> former = source;
        source = target;
        target = former;
        plan = null;
        return target.size();
    }

    int advance() {
        source = target;
        target = new ArrayList<>();
        plan = null;
        return source.size();
    }

    private static int checkOf(List<Integer> bytes) {
        long a = 0;
        long b = 0;
        for (int i = 0; i < bytes.size(); i++) {
            a += bytes.get(i);
            b += (long) bytes.get(i) * (bytes.size() - i);
        }
        return (int) (256 * (b % 251) + a % 251);
    }

    int check(int side, int from, int to) {
        List<Integer> string = side(side);
        index(from >= 0 && to <= string.size() && from <= to);
        return checkOf(string.subList(from, to));
    }

    private boolean repeats(int place, int n, int p) {
        List<Integer> soFar = new ArrayList<>(target.subList(0, place));
        for (int k = 0; k < n; k++) {
            int next = soFar.get(p + k);
            if (next != target.get(place + k)) {
                return false;
            }
            soFar.add(next);
        }
        return true;
    }

    private boolean copies(int place, int n, int p) {
        return p + n <= source.size()
                && source.subList(p, p + n).equals(target.subList(place, place + n));
    }

    private int[] matchOf(int place, int side) {
        index(place >= 0 && place < target.size());
        index(side == 0 || side == 1);
        for (int n = target.size() - place; n >= 1; n--) {
            for (int p = 0; p < (side == 0 ? source.size() : place); p++) {
                if (side == 0 ? copies(place, n, p) : repeats(place, n, p)) {
                    return new int[] {n, p};
                }
            }
        }
        return new int[] {0, -1};
    }

    int match(int place, int side) {
        return matchOf(place, side)[0];
    }

    int matchPlace(int place, int side) {
        return matchOf(place, side)[1];
    }

    int blocks(int size) {
        argument(size >= 1 && size <= 50);
        List<List<Integer>> blocks = new ArrayList<>();
        for (int p = 0; p + size <= source.size(); p += size) {
            blocks.add(source.subList(p, p + size));
        }
        int found = 0;
        int place = 0;
        while (place + size <= target.size()) {
            boolean isBlock = blocks.contains(target.subList(place, place + size));
            found += isBlock ? 1 : 0;
            place += isBlock ? size : 1;
        }
        return found;
    }

    int setLeast(int value) {
        argument(value >= 1 && value <= 20);
        int before = least;
        least = value;
        plan = null;
        return before;
    }

    // An instruction is {kind, n, operand, start}.

    private List<int[]> instructionsAt(int place) {
        List<int[]> all = new ArrayList<>();
        int size = target.size();
        for (int n = 1; n <= size - place; n++) {
            all.add(new int[] {0, n, target.get(place), place});
            for (int p = 0; n >= least && p < source.size(); p++) {
                if (copies(place, n, p)) {
                    all.add(new int[] {1, n, p, place});
                }
            }
            for (int p = 0; n >= least && p < place; p++) {
                if (repeats(place, n, p)) {
                    all.add(new int[] {2, n, p, place});
                }
            }
            if (target.subList(place, place + n).stream().distinct().count() == 1) {
                all.add(new int[] {3, n, target.get(place), place});
            }
        }
        return all;
    }

    private static void number(List<Integer> to, int number) {
        if (number >= 128) {
            to.add(128 + number % 128);
            to.add(number / 128);
        } else {
            to.add(number);
        }
    }

    private List<Integer> write(int[] instruction) {
        List<Integer> to = new ArrayList<>();
        int kind = instruction[0];
        int n = instruction[1];
        to.add(64 * kind + (n < 63 ? n : 63));
        if (n >= 63) {
            number(to, n - 63);
        }
        if (kind == 0) {
            to.addAll(target.subList(instruction[3], instruction[3] + n));
        } else if (kind == 3) {
            to.add(instruction[2]);
        } else {
            number(to, instruction[2]);
        }
        return to;
    }

    private int bytesOf(List<int[]> instructions) {
        int bytes = 0;
        for (int[] instruction : instructions) {
            bytes += write(instruction).size();
        }
        return bytes;
    }

    private boolean isBetter(List<int[]> one, List<int[]> other) {
        if (other == null) {
            return true;
        }
        int bytes = bytesOf(one) - bytesOf(other);
        if (bytes != 0) {
            return bytes < 0;
        }
        if (one.size() != other.size()) {
            return one.size() < other.size();
        }
        for (int i = 0; i < one.size(); i++) {
            int[] a = one.get(i);
            int[] b = other.get(i);
            if (a[0] != b[0]) {
                return a[0] < b[0];
            }
            if (a[1] != b[1]) {
                return a[1] > b[1];
            }
            if (a[2] != b[2]) {
                return a[2] < b[2];
            }
        }
        return false;
    }

    private List<int[]> bestPlan() {
        int size = target.size();
        List<List<int[]>> best = new ArrayList<>();
        for (int i = 0; i <= size; i++) {
            best.add(null);
        }
        best.set(size, new ArrayList<>());
        for (int place = size - 1; place >= 0; place--) {
            for (int[] instruction : instructionsAt(place)) {
                List<int[]> offer = new ArrayList<>();
                offer.add(instruction);
                offer.addAll(best.get(place + instruction[1]));
                if (isBetter(offer, best.get(place))) {
                    best.set(place, offer);
                }
            }
        }
        return best.get(0);
    }

    /** Goes through every plan there is; for short targets alone. */
    void planByTryingAll() {
        plan = tryAll(new ArrayList<>(), 0, null);
    }

    private List<int[]> tryAll(List<int[]> ahead, int place, List<int[]> bestSoFar) {
        if (place == target.size()) {
            return isBetter(ahead, bestSoFar) ? new ArrayList<>(ahead) : bestSoFar;
        }
        if (bestSoFar != null && bytesOf(ahead) > bytesOf(bestSoFar)) {
            return bestSoFar;
        }
        List<int[]> best = bestSoFar;
        for (int[] instruction : instructionsAt(place)) {
            ahead.add(instruction);
            best = tryAll(ahead, place + instruction[1], best);
            ahead.remove(ahead.size() - 1);
        }
        return best;
    }

    int plan() {
        if (plan == null) {
            plan = bestPlan();
        }
        return plan.size();
    }

    boolean hasPlan() {
        return plan != null;
    }

    int cost() {
        state(plan != null);
        return bytesOf(plan);
    }

    private int part(int instruction, int which) {
        state(plan != null);
        index(instruction >= 0 && instruction < plan.size());
        return plan.get(instruction)[which];
    }

    int kind(int instruction) {
        return part(instruction, 0);
    }

    int length(int instruction) {
        return part(instruction, 1);
    }

    int operand(int instruction) {
        return part(instruction, 2);
    }

    int start(int instruction) {
        return part(instruction, 3);
    }

    int made(int kind) {
        state(plan != null);
        index(kind >= 0 && kind <= 3);
        return plan.stream().filter(i -> i[0] == kind).mapToInt(i -> i[1]).sum();
    }

    double ratio() {
        state(plan != null);
        return target.isEmpty() ? 0 : (bytesOf(plan) + 2.0) / target.size();
    }

    int encode() {
        state(plan != null);
        code = new ArrayList<>();
        for (int[] instruction : plan) {
            code.addAll(write(instruction));
        }
        int check = checkOf(target);
        code.add(check % 256);
        code.add(check / 256);
        return code.size();
    }

    int codeSize() {
        return code.size();
    }

    int code(int position) {
        index(position >= 0 && position < code.size());
        return code.get(position);
    }

    int setCode(int position, int value) {
        index(position >= 0 && position < code.size());
        argument(value >= 0 && value <= 255);
        return code.set(position, value);
    }

    int cutCode(int many) {
        argument(many >= 0 && many <= code.size());
        code.subList(code.size() - many, code.size()).clear();
        return code.size();
    }

    int appendCode(int value) {
        argument(value >= 0 && value <= 255);
        state(code.size() < 400);
        code.add(value);
        return code.size();
    }

    int decode() {
        made.clear();
        errorPosition = -1;
        cursor = 0;
        try {
            if (code.size() < 2) {
                throw new Damage(1, code.size());
            }
            while (cursor < code.size() - 2) {
                decodeInstruction();
            }
            int check = checkOf(made);
            if (code.get(cursor) + 256 * code.get(cursor + 1) != check) {
                throw new Damage(5, cursor);
            }
            return 0;
        } catch (Damage damage) {
            errorPosition = damage.position;
            return damage.error;
        }
    }

    /** The check of what was made, for a test that writes it. */
    int checkOfMade() {
        return checkOf(made);
    }

    private int read() throws Damage {
        if (cursor == code.size() - 2) {
            throw new Damage(1, cursor);
        }
        return code.get(cursor++);
    }

    private int readNumber() throws Damage {
        int low = read();
        if (low < 128) {
            return low;
        }
        int high = read();
        if (high >= 128) {
            throw new Damage(2, cursor - 1);
        }
        return low % 128 + 128 * high;
    }

    private void decodeInstruction() throws Damage {
        int head = cursor;
        int first = read();
        int kind = first >> 6;
        int n = first & 63;
        if (n == 0) {
            throw new Damage(2, head);
        }
        if (n == 63) {
            n += readNumber();
        }
        List<Integer> told = new ArrayList<>();
        int p = 0;
        if (kind == 0) {
            for (int i = 0; i < n; i++) {
                told.add(read());
            }
        } else {
            p = kind == 3 ? read() : readNumber();
        }
        if (kind == 1 && p + n > source.size() || kind == 2 && p >= made.size()) {
            throw new Damage(3, head);
        }
        if (made.size() + n > 300) {
            throw new Damage(4, head);
        }
        for (int i = 0; i < n; i++) {
            made.add(kind == 0 ? told.get(i) : kind == 1 ? source.get(p + i)
                    : kind == 2 ? made.get(p + i) : Integer.valueOf(p));
        }
    }

    int errorPosition() {
        return errorPosition;
    }

    int outputSize() {
        return made.size();
    }

    int output(int place) {
        index(place >= 0 && place < made.size());
        return made.get(place);
    }

    int differences() {
        int shorter = Math.min(made.size(), target.size());
        int different = Math.max(made.size(), target.size()) - shorter;
        for (int i = 0; i < shorter; i++) {
            different += made.get(i).equals(target.get(i)) ? 0 : 1;
        }
        return different;
    }

    long digest() {
        List<Integer> numbers = new ArrayList<>();
        numbers.add(source.size());
        numbers.addAll(source);
        numbers.add(target.size());
        numbers.addAll(target);
        numbers.add(least);
        if (plan != null) {
            numbers.add(plan.size());
            plan.forEach(i -> numbers.addAll(List.of(i[0], i[1], i[2])));
        }
        numbers.add(code.size());
        numbers.addAll(code);
        numbers.add(made.size());
        long d = 101;
        for (int number : numbers) {
            d = d * 31 + number;
        }
        return d;
    }
}
