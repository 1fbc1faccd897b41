import java.util.ArrayList;
import java.util.Arrays;
import java.util.Collections;
import java.util.HashMap;
import java.util.List;
import java.util.Map;
import java.util.zip.Adler32;

/**
 * A second writing of the document's terms, slow and plain, to be compared with the class:
 * codes are texts of bits in a map, strings are kept whole, rows are lists.
 */
final class Model {
    private static final int[] ORDER = {16, 17, 18, 0, 8, 7, 9, 6, 10, 5, 11, 4, 12, 3, 13, 2, 14, 1, 15};

    /** One filter: kind, early, predictor, colours, bits, columns. */
    record Filter(int kind, int early, int predictor, int colours, int bits, int columns) {
    }

    private static final class Fault extends RuntimeException {
        private static final long serialVersionUID = 1;
        private final int kind;

        Fault(int kind) {
            this.kind = kind;
        }
    }

    byte[] result = new byte[0];
    int faultFilter = -1;
    int faultKind = -1;
    int faultPlace = -1;

    private byte[] input = new byte[0];
    private int bitsRead = 0;
    private List<Integer> output = new ArrayList<>();
    private int left = 0;

    void decode(byte[] row, List<Filter> chain, int budget) {
        result = row;
        left = budget;
        faultFilter = -1;
        faultKind = -1;
        faultPlace = -1;
        for (int i = 0; i < chain.size() && faultKind < 0; i++) {
            input = result;
            bitsRead = 0;
            output = new ArrayList<>();
            int kind = -1;
            try {
                run(chain.get(i));
            } catch (Fault fault) {
                kind = fault.kind;
            }
            int place = (bitsRead + 7) / 8;
            try {
                output = undo(output, chain.get(i));
            } catch (Fault fault) {
                kind = kind < 0 ? fault.kind : kind;
            }
            result = new byte[output.size()];
            for (int k = 0; k < result.length; k++) {
                result[k] = (byte) (int) output.get(k);
            }
            if (kind >= 0) {
                faultFilter = i;
                faultKind = kind;
                faultPlace = place;
            }
        }
    }

    private void run(Filter filter) {
        switch (filter.kind()) {
            case 0 -> flate();
            case 1 -> lzw(filter.early());
            case 2 -> text85();
            case 3 -> digits();
            default -> lengths();
        }
    }

    private int bit(boolean lowFirst) {
        if (bitsRead >= 8 * input.length) {
            throw new Fault(StreamFilters.ENDS);
        }
        int b = input[bitsRead / 8] & 255;
        int bit = b >> (lowFirst ? bitsRead % 8 : 7 - bitsRead % 8) & 1;
        bitsRead++;
        return bit;
    }

    private int low(int many) {
        int number = 0;
        for (int i = 0; i < many; i++) {
            number += bit(true) << i;
        }
        return number;
    }

    private int one() {
        bitsRead = (bitsRead + 7) / 8 * 8;
        return low(8);
    }

    private void give(int b) {
        if (left == 0) {
            throw new Fault(StreamFilters.OVER);
        }
        left--;
        output.add(b & 255);
    }

    private void flate() {
        int c = one();
        int f = one();
        if (c % 16 != 8 || c / 16 > 7 || (c * 256 + f) % 31 != 0 || f / 32 % 2 != 0) {
            throw new Fault(StreamFilters.HEADER);
        }
        boolean last;
        do {
            last = low(1) == 1;
            int type = low(2);
            if (type == 0) {
                stored();
            } else if (type == 1) {
                List<Integer> lengths = new ArrayList<>();
                for (int i = 0; i < 288; i++) {
                    lengths.add(i <= 143 ? 8 : i <= 255 ? 9 : i <= 279 ? 7 : 8);
                }
                block(codes(lengths), codes(Collections.nCopies(32, 5)));
            } else if (type == 2) {
                ownCodes();
            } else {
                throw new Fault(StreamFilters.BLOCK);
            }
        } while (!last);
        long told = 0;
        for (int i = 0; i < 4; i++) {
            told = told * 256 + one();
        }
        Adler32 check = new Adler32();
        for (int b : output) {
            check.update(b);
        }
        if (told != check.getValue()) {
            throw new Fault(StreamFilters.CHECK);
        }
    }

    private void stored() {
        int n = one();
        n += 256 * one();
        int m = one();
        m += 256 * one();
        if (n + m != 65535) {
            throw new Fault(StreamFilters.STORED);
        }
        for (int i = 0; i < n; i++) {
            give(one());
        }
    }

    private void ownCodes() {
        int literals = low(5) + 257;
        int distances = low(5) + 1;
        int many = low(4) + 4;
        if (literals > 286 || distances > 30) {
            throw new Fault(StreamFilters.CODES);
        }
        Integer[] first = new Integer[19];
        Arrays.fill(first, 0);
        for (int i = 0; i < many; i++) {
            first[ORDER[i]] = low(3);
        }
        List<Integer> firstLengths = Arrays.asList(first);
        if (!good(firstLengths)) {
            throw new Fault(StreamFilters.CODES);
        }
        Map<String, Integer> firstCodes = codes(firstLengths);
        List<Integer> all = new ArrayList<>();
        while (all.size() < literals + distances) {
            int symbol = read(firstCodes);
            int times = symbol == 16 ? 3 + low(2) : symbol == 17 ? 3 + low(3) : symbol == 18 ? 11 + low(7) : 1;
            if (symbol == 16 && all.isEmpty() || all.size() + times > literals + distances) {
                throw new Fault(StreamFilters.CODES);
            }
            int length = symbol == 16 ? all.get(all.size() - 1) : symbol > 16 ? 0 : symbol;
            for (int i = 0; i < times; i++) {
                all.add(length);
            }
        }
        List<Integer> ofLiterals = all.subList(0, literals);
        List<Integer> ofDistances = all.subList(literals, all.size());
        boolean noDistances = ofDistances.stream().allMatch(length -> length == 0);
        if (!good(ofLiterals) || ofLiterals.get(256) == 0 || !good(ofDistances) && !noDistances) {
            throw new Fault(StreamFilters.CODES);
        }
        block(codes(ofLiterals), codes(ofDistances));
    }

    private static boolean good(List<Integer> lengths) {
        double sum = 0;
        int used = 0;
        for (int length : lengths) {
            sum += length > 0 ? Math.pow(2, -length) : 0;
            used += length > 0 ? 1 : 0;
        }
        return sum == 1 || used == 1 && sum == 0.5;
    }

    private static Map<String, Integer> codes(List<Integer> lengths) {
        Map<String, Integer> codes = new HashMap<>();
        String code = "";
        for (int length = 1; length <= 15; length++) {
            for (int i = 0; i < lengths.size(); i++) {
                if (lengths.get(i) == length) {
                    // the one behind all before, filled up with 0
                    code = codes.isEmpty() ? "0".repeat(length) : plusOne(code) + "0".repeat(length - code.length());
                    codes.put(code, i);
                }
            }
        }
        return codes;
    }

    private static String plusOne(String code) {
        int number = Integer.parseInt(code, 2) + 1;
        String text = Integer.toBinaryString(number);
        return "0".repeat(Math.max(0, code.length() - text.length())) + text;
    }

    private int read(Map<String, Integer> codes) {
        String bits = "";
        while (!codes.containsKey(bits)) {
            boolean someLonger = false;
            for (String code : codes.keySet()) {
                someLonger |= code.length() > bits.length() && code.startsWith(bits);
            }
            if (!someLonger) {
                throw new Fault(StreamFilters.SYMBOL);
            }
            bits += bit(true);
        }
        return codes.get(bits);
    }

    private void block(Map<String, Integer> literals, Map<String, Integer> distances) {
        while (true) {
            int symbol = read(literals);
            if (symbol == 256) {
                return;
            }
            if (symbol < 256) {
                give(symbol);
                continue;
            }
            if (symbol > 285) {
                throw new Fault(StreamFilters.SYMBOL);
            }
            int length = symbol == 285 ? 258 : started(3, symbol - 257, 4);
            int code = read(distances);
            if (code > 29) {
                throw new Fault(StreamFilters.SYMBOL);
            }
            int far = started(1, code, 2);
            if (far > output.size()) {
                throw new Fault(StreamFilters.FAR);
            }
            for (int i = 0; i < length; i++) {
                give(output.get(output.size() - far));
            }
        }
    }

    /** Two times group of them have no further bits, then each group has one more. */
    private int started(int first, int number, int group) {
        int start = first;
        for (int i = 0; i < number; i++) {
            start += 1 << bitsOf(i, group);
        }
        return start + low(bitsOf(number, group));
    }

    private static int bitsOf(int number, int group) {
        return number < 2 * group ? 0 : number / group - 1;
    }

    private void lzw(int early) {
        List<List<Integer>> strings = new ArrayList<>();
        List<Integer> before = null;
        while (true) {
            int next = 258 + strings.size();
            int width = 9;
            for (int step = 512; step <= 2048; step *= 2) {
                width += next + early >= step ? 1 : 0;
            }
            int code = 0;
            for (int i = 0; i < width; i++) {
                code = 2 * code + bit(false);
            }
            if (code == 257) {
                return;
            }
            if (code == 256) {
                strings.clear();
                before = null;
                continue;
            }
            List<Integer> own = new ArrayList<>();
            if (code < 256) {
                own.add(code);
            } else if (code < next) {
                own.addAll(strings.get(code - 258));
            } else if (code == next && before != null) {
                own.addAll(before);
                own.add(before.get(0));
            } else {
                throw new Fault(StreamFilters.CODE);
            }
            if (before != null && next <= 4095) {
                List<Integer> made = new ArrayList<>(before);
                made.add(own.get(0));
                strings.add(made);
            }
            for (int b : own) {
                give(b);
            }
            before = own;
        }
    }

    private int sign() {
        int sign = one();
        while (sign == 0 || sign == 9 || sign == 10 || sign == 12 || sign == 13 || sign == 32) {
            sign = one();
        }
        return sign;
    }

    private void text85() {
        List<Integer> digits = new ArrayList<>();
        while (true) {
            int sign = sign();
            if (sign >= 33 && sign <= 117) {
                digits.add(sign - 33);
                if (digits.size() == 5) {
                    number(digits, 4);
                    digits.clear();
                }
            } else if (sign == 122 && digits.isEmpty()) {
                for (int i = 0; i < 4; i++) {
                    give(0);
                }
            } else if (sign == 126) {
                if (one() != 62 || digits.size() == 1) {
                    throw new Fault(StreamFilters.SIGN);
                }
                int many = digits.size() - 1;
                while (digits.size() < 5) {
                    digits.add(84);
                }
                if (many > 0) {
                    number(digits, many);
                }
                return;
            } else {
                throw new Fault(StreamFilters.SIGN);
            }
        }
    }

    private void number(List<Integer> digits, int many) {
        long number = 0;
        for (int digit : digits) {
            number = 85 * number + digit;
        }
        if (number >= 1L << 32) {
            throw new Fault(StreamFilters.RANGE);
        }
        for (int i = 0; i < many; i++) {
            give((int) (number >> 24 - 8 * i));
        }
    }

    private void digits() {
        String pending = "";
        while (true) {
            int sign = sign();
            if (sign == 62) {
                if (!pending.isEmpty()) {
                    give(Integer.parseInt(pending + "0", 16));
                }
                return;
            }
            if ("0123456789abcdefABCDEF".indexOf(sign) < 0) {
                throw new Fault(StreamFilters.SIGN);
            }
            pending += (char) sign;
            if (pending.length() == 2) {
                give(Integer.parseInt(pending, 16));
                pending = "";
            }
        }
    }

    private void lengths() {
        while (true) {
            int length = one();
            if (length == 128) {
                return;
            }
            if (length < 128) {
                for (int i = 0; i <= length; i++) {
                    give(one());
                }
            } else {
                int b = one();
                for (int i = length; i < 257; i++) {
                    give(b);
                }
            }
        }
    }

    /** With a wrong tag the output is what the rows before it are. */
    private List<Integer> undo(List<Integer> bytes, Filter filter) {
        int size = (filter.columns() * filter.colours() * filter.bits() + 7) / 8;
        List<Integer> out = new ArrayList<>();
        if (filter.predictor() == 1) {
            return bytes;
        }
        if (filter.predictor() == 2) {
            for (int start = 0; start < bytes.size(); start += size) {
                out.addAll(sums(bytes.subList(start, Math.min(start + size, bytes.size())), filter));
            }
            return out;
        }
        int unit = Math.max(1, filter.colours() * filter.bits() / 8);
        Integer[] above = new Integer[size];
        Arrays.fill(above, 0);
        for (int start = 0; start < bytes.size(); start += size + 1) {
            int tag = bytes.get(start);
            if (tag > 4) {
                output = out;
                throw new Fault(StreamFilters.TAG);
            }
            List<Integer> part = bytes.subList(start + 1, Math.min(start + 1 + size, bytes.size()));
            Integer[] now = new Integer[size];
            for (int i = 0; i < part.size(); i++) {
                int a = i < unit ? 0 : now[i - unit];
                int b = above[i];
                int c = i < unit ? 0 : above[i - unit];
                int[] guesses = {0, a, b, (a + b) / 2, nearest(a, b, c)};
                now[i] = (part.get(i) + guesses[tag]) % 256;
                out.add(now[i]);
            }
            above = now;
        }
        return out;
    }

    private static int nearest(int a, int b, int c) {
        int best = a;
        for (int one : new int[] {b, c}) {
            best = Math.abs(a + b - c - one) < Math.abs(a + b - c - best) ? one : best;
        }
        return best;
    }

    private static List<Integer> sums(List<Integer> part, Filter filter) {
        StringBuilder text = new StringBuilder();
        for (int b : part) {
            text.append(Integer.toBinaryString(256 + b).substring(1));
        }
        int bits = filter.bits();
        for (int i = filter.colours(); i < filter.colours() * filter.columns() && (i + 1) * bits <= text.length(); i++) {
            int before = (i - filter.colours()) * bits;
            int sum = Integer.parseInt(text.substring(i * bits, (i + 1) * bits), 2)
                    + Integer.parseInt(text.substring(before, before + bits), 2);
            String digits = Integer.toBinaryString((1 << bits) + sum % (1 << bits)).substring(1);
            text.replace(i * bits, (i + 1) * bits, digits);
        }
        List<Integer> out = new ArrayList<>();
        for (int i = 0; i < text.length(); i += 8) {
            out.add(Integer.parseInt(text.substring(i, i + 8), 2));
        }
        return out;
    }
}
