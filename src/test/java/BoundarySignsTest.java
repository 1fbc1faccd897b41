import java.util.Arrays;

/**
 * The boundary cases that the sentences about TEXT 85, HEXADECIMAL and LENGTHS name; each has a method of its
 * own, and the sentence stands above it.
 */
final class BoundarySignsTest {
    private static final int TEXT = Filtered.TEXT;
    private static final int DIGITS = Filtered.DIGITS;
    private static final int LENGTHS = Filtered.LENGTHS;
    private static final int SIGN = StreamFilters.SIGN;
    private static final int RANGE = StreamFilters.RANGE;
    private static final int ENDS = StreamFilters.ENDS;
    private static final String BLANKS = "\0\t\n\f\r ";

    private BoundarySignsTest() {
    }

    public static void main(String[] args) {
        text85();
        hexadecimal();
        lengths();
        Check.end();
    }

    private static void gives(String what, int kind, String row, int... due) {
        Filtered.gives(what, kind, Rows.ofText(row), Rows.of(due));
    }

    private static void stops(String what, int kind, String row, int fault, int place, int... due) {
        Filtered.stops(what, kind, Rows.ofText(row), Rows.of(due), fault, place);
    }

    // TEXT 85

    private static void text85() {
        passedOver85();
        neighboursOfBlanks85();
        firstAndLastDigit();
        highestNumber();
        fourZeros();
        endAtOnce85();
        notDirectlyBehind();
        oneLeftOver();
        someLeftOver();
        filledUpWithTheHighest();
        leftOverRange();
        otherSigns85();
        textThatEnds();
        overInANumber();
    }

    /** "Signs 0, 9, 10, 12, 13, 32 are passed over": before, between and behind digits, and where nothing else is. */
    private static void passedOver85() {
        gives("blanks alone", TEXT, BLANKS + "~>");
        gives("blanks before and behind", TEXT, BLANKS + "!!!!\"" + BLANKS + "~>", 0, 0, 0, 1);
        gives("blanks between", TEXT, "!" + BLANKS + "!" + BLANKS + "!!" + BLANKS + "\"~>", 0, 0, 0, 1);
        gives("blanks and 122", TEXT, BLANKS + "z" + BLANKS + "z~>", 0, 0, 0, 0, 0, 0, 0, 0);
        gives("blanks and what is left over", TEXT, "!" + BLANKS + "#" + BLANKS + "~>", 0);
        stops("blanks, and it ends", TEXT, BLANKS, ENDS, 6);
        stops("blanks count for the place", TEXT, BLANKS + "v", SIGN, 7);
    }

    /** Other signs below 33 are none: 1, 8, 11, 14, 31. */
    private static void neighboursOfBlanks85() {
        for (int sign = 0; sign < 33; sign++) {
            if (BLANKS.indexOf(sign) < 0) {
                stops("sign " + sign, TEXT, "!!!!!" + (char) sign + "~>", SIGN, 6, 0, 0, 0, 0);
            }
        }
    }

    /** "33 .. 117 are digits 0 .. 84". */
    private static void firstAndLastDigit() {
        gives("33 is 0", TEXT, "!!!!!~>", 0, 0, 0, 0);
        gives("34 is 1", TEXT, "!!!!\"~>", 0, 0, 0, 1);
        gives("117 is 84", TEXT, "!!!!u~>", 0, 0, 0, 84);
        gives("116 and 117", TEXT, "!!!tu~>", 0, 0, (83 * 85 + 84) / 256, (83 * 85 + 84) % 256);
        stops("118 is none", TEXT, "!!!!v~>", SIGN, 5);
    }

    /** The text of five digits for a number. */
    private static String digitsOf(long number) {
        StringBuilder text = new StringBuilder();
        for (int i = 0; i < 5; i++) {
            text.insert(0, (char) (33 + number % 85));
            number /= 85;
        }
        return text.toString();
    }

    /** "five are a number, the highest first, of four bytes (more than 2^32 - 1: RANGE, when the fifth is read)". */
    private static void highestNumber() {
        long most = (1L << 32) - 1;
        gives("2^32 - 1", TEXT, digitsOf(most) + "~>", 255, 255, 255, 255);
        gives("2^32 - 2", TEXT, digitsOf(most - 1) + "~>", 255, 255, 255, 254);
        gives("2^31", TEXT, digitsOf(1L << 31) + "~>", 128, 0, 0, 0);
        gives("2^31 - 1", TEXT, digitsOf((1L << 31) - 1) + "~>", 127, 255, 255, 255);
        gives("0x01020304", TEXT, digitsOf(0x01020304) + "~>", 1, 2, 3, 4);
        for (long number : new long[] {most + 1, most + 2, most + 256, 85L * 85 * 85 * 85 * 85 - 1}) {
            stops("too high: " + number, TEXT, digitsOf(number) + "~>", RANGE, 5);
            stops("too high, behind others: " + number, TEXT, "z!!!!!" + digitsOf(number), RANGE, 11, 0, 0, 0, 0, 0, 0, 0,
                    0);
        }
        stops("too high, but the fifth is missing", TEXT, "uuuu", ENDS, 4);
        stops("too high, but the fifth is no digit", TEXT, "uuuuv", SIGN, 5);
        stops("too high, and blanks", TEXT, "u uuu u~>", RANGE, 7);
    }

    /** "122, where no digit is left over, are four bytes 0; else SIGN." */
    private static void fourZeros() {
        gives("122", TEXT, "z~>", 0, 0, 0, 0);
        gives("122 behind 122", TEXT, "zz~>", 0, 0, 0, 0, 0, 0, 0, 0);
        gives("122 behind five", TEXT, "!!!!\"z!!!!\"~>", 0, 0, 0, 1, 0, 0, 0, 0, 0, 0, 0, 1);
        for (int many = 1; many <= 4; many++) {
            stops("122 behind " + many, TEXT, "z" + "!".repeat(many) + "z~>", SIGN, many + 2, 0, 0, 0, 0);
        }
        stops("121", TEXT, "y~>", SIGN, 1);
        stops("123", TEXT, "{~>", SIGN, 1);
    }

    /** "126, and 62 directly behind it, ends": with none left over nothing more comes. */
    private static void endAtOnce85() {
        gives("the end at once", TEXT, "~>");
        gives("the end behind five", TEXT, "!!!!\"~>", 0, 0, 0, 1);
        gives("the end behind 122", TEXT, "z~>", 0, 0, 0, 0);
        gives("something behind the end", TEXT, "~>~~~vvv");
    }

    /** "62 directly behind it (else SIGN)": no other sign, no blank, no second 126. */
    private static void notDirectlyBehind() {
        for (int sign = 0; sign < 256; sign++) {
            if (sign != '>') {
                stops("126 and " + sign, TEXT, "z~" + (char) sign + ">", SIGN, 3, 0, 0, 0, 0);
            }
        }
        stops("126 and nothing", TEXT, "z~", ENDS, 2, 0, 0, 0, 0);
        stops("126 at once, and nothing", TEXT, "~", ENDS, 1);
        stops("with two left over", TEXT, "!!~!", SIGN, 4);
        stops("with two that are too high", TEXT, "uu~!", SIGN, 4);
        gives("blanks before 126", TEXT, "z ~>", 0, 0, 0, 0);
    }

    /** "with one, SIGN, when the byte behind 126 is read". */
    private static void oneLeftOver() {
        stops("one left over", TEXT, "!~>", SIGN, 3);
        stops("one left over behind five", TEXT, "!!!!\"!~>", SIGN, 8, 0, 0, 0, 1);
        stops("one left over, and no 62", TEXT, "!~!", SIGN, 3);
        stops("one left over, and it ends", TEXT, "!~", ENDS, 2);
        stops("one left over, blanks", TEXT, " ! ~>", SIGN, 5);
    }

    /** "with n digits left over, 2 .. 4, these and digits 84 up to five, of which the first n - 1 bytes count". */
    private static void someLeftOver() {
        String text = digitsOf(0x80FF017FL);
        gives("four left over", TEXT, text.substring(0, 4) + "~>", 0x80, 0xFF, 0x01);
        gives("three left over", TEXT, text.substring(0, 3) + "~>", 0x80, 0xFF);
        gives("two left over, filled up", TEXT, digitsOf(0x80000000L).substring(0, 2) + "~>", 0x80);
        gives("two, the lowest", TEXT, "!!~>", 0);
        gives("three, the lowest", TEXT, "!!!~>", 0, 0);
        gives("four, the lowest", TEXT, "!!!!~>", 0, 0, 0);
        gives("behind five", TEXT, "!!!!\"" + text.substring(0, 3) + "~>", 0, 0, 0, 1, 0x80, 0xFF);
    }

    /** "these and digits 84 up to five": they only just make the last byte one more, and they only just do not. */
    private static void filledUpWithTheHighest() {
        long place = 1;
        for (int n = 4; n >= 2; n--) {
            place *= 85;
            long unit = 1L << 8 * (5 - n);
            long least = 0;
            long most = 0;
            for (long first = 0; first < Math.min(100000, (1L << 32) / place); first++) {
                least = behind(first, place, unit) < behind(least, place, unit) ? first : least;
                most = behind(first, place, unit) > behind(most, place, unit) ? first : most;
            }
            leftOver(n + " digits that only just reach a byte", n, place, least);
            leftOver(n + " digits that only just do not", n, place, most);
        }
    }

    /** What lies behind the bytes that count. */
    private static long behind(long first, long place, long unit) {
        return (first * place + place - 1) % unit;
    }

    private static void leftOver(String what, int n, long place, long first) {
        long number = first * place + place - 1;
        int[] due = new int[n - 1];
        for (int i = 0; i < n - 1; i++) {
            due[i] = (int) (number >> 24 - 8 * i & 255);
        }
        gives(what, TEXT, digitsOf(first * place).substring(0, n) + "~>", due);
    }

    /** "(RANGE likewise)": filled up with digits 84 they are more than 2^32 - 1. */
    private static void leftOverRange() {
        long place = 1;
        for (int n = 4; n >= 2; n--) {
            place *= 85;
            // the most that n digits may be, so that with digits 84 behind them they are not too high
            long most = ((1L << 32) - 1 - (place - 1)) / place;
            leftOver(n + " that are the highest", n, place, most);
            String above = digitsOf((most + 1) * place).substring(0, n);
            stops(n + " that are too high", TEXT, above + "~>", RANGE, n + 2);
            stops(n + " that are too high, and it ends", TEXT, above + "~", ENDS, n + 1);
            stops(n + " of the highest", TEXT, "u".repeat(n) + "~>", RANGE, n + 2);
        }
    }

    /** "Other signs: SIGN." */
    private static void otherSigns85() {
        for (int sign = 118; sign < 256; sign++) {
            if (sign != 122 && sign != 126) {
                stops("sign " + sign, TEXT, "z" + (char) sign, SIGN, 2, 0, 0, 0, 0);
                stops("sign " + sign + " behind three", TEXT, "z!!!" + (char) sign, SIGN, 5, 0, 0, 0, 0);
            }
        }
    }

    /** It ENDS with none to four left over: these are lost. */
    private static void textThatEnds() {
        for (int many = 0; many <= 4; many++) {
            stops("it ends with " + many, TEXT, "z" + "!".repeat(many), ENDS, many + 1, 0, 0, 0, 0);
        }
    }

    /** In the midst of four bytes there is no budget left: those before are there. */
    private static void overInANumber() {
        for (int budget = 0; budget <= 3; budget++) {
            StreamFilters x = Rows.loaded(Rows.ofText(digitsOf(0x01020304) + "~>"), TEXT);
            x.budget(budget);
            Rows.decodesTo("five digits, budget " + budget, x, Arrays.copyOf(Rows.of(1, 2, 3, 4), budget));
            Rows.hasFault("five digits, budget " + budget, x, 0, StreamFilters.OVER, 5);
            StreamFilters y = Rows.loaded(Rows.ofText("z~>"), TEXT);
            y.budget(budget);
            Rows.decodesTo("122, budget " + budget, y, new byte[budget]);
            Rows.hasFault("122, budget " + budget, y, 0, StreamFilters.OVER, 1);
        }
        StreamFilters z = Rows.loaded(Rows.ofText("!!!!~>"), TEXT);
        z.budget(2);
        Rows.decodesTo("four left over, budget 2", z, Rows.of(0, 0));
        Rows.hasFault("four left over, budget 2", z, 0, StreamFilters.OVER, 6);
        z.budget(3);
        Rows.decodesTo("four left over, budget 3", z, Rows.of(0, 0, 0));
        Rows.hasNoFault("four left over, budget 3", z);
    }

    // HEXADECIMAL

    private static void hexadecimal() {
        passedOverDigits();
        firstAndLastOfEach();
        endOfDigits();
        otherSignsOfDigits();
        digitsThatEnd();
        overAtTheEnd();
    }

    /** "The same signs are passed over". */
    private static void passedOverDigits() {
        gives("blanks alone", DIGITS, BLANKS + ">");
        gives("blanks between", DIGITS, BLANKS + "4" + BLANKS + "1" + BLANKS + "7" + BLANKS + ">", 0x41, 0x70);
        stops("blanks, and it ends", DIGITS, BLANKS, ENDS, 6);
        for (int sign = 0; sign < 33; sign++) {
            if (BLANKS.indexOf(sign) < 0) {
                stops("sign " + sign, DIGITS, "4" + (char) sign + "1>", SIGN, 2);
            }
        }
    }

    /** "48 .. 57, 65 .. 70, 97 .. 102 are digits, two a byte": the first and the last of each, and their neighbours. */
    private static void firstAndLastOfEach() {
        gives("0 and 9", DIGITS, "0990>", 0x09, 0x90);
        gives("A and F", DIGITS, "AFFA>", 0xAF, 0xFA);
        gives("a and f", DIGITS, "affa>", 0xAF, 0xFA);
        gives("of all three", DIGITS, "9AaFf0>", 0x9A, 0xAF, 0xF0);
        for (int sign : new int[] {47, 58, 64, 71, 96, 103}) {
            stops("sign " + sign, DIGITS, "4" + (char) sign, SIGN, 2);
            stops("sign " + sign + " at first", DIGITS, String.valueOf((char) sign), SIGN, 1);
        }
    }

    /** "62 ends (one that is left over is followed by 0)". */
    private static void endOfDigits() {
        gives("the end at once", DIGITS, ">");
        gives("none left over", DIGITS, "41>", 0x41);
        gives("one left over", DIGITS, "F>", 0xF0);
        gives("one left over, the lowest", DIGITS, "0>", 0);
        gives("one left over behind two", DIGITS, "417>", 0x41, 0x70);
        gives("something behind the end", DIGITS, "41>42?", 0x41);
        gives("another end behind it", DIGITS, ">>", new int[0]);
    }

    /** "others: SIGN". */
    private static void otherSignsOfDigits() {
        for (int sign = 33; sign < 256; sign++) {
            boolean digit = "0123456789ABCDEFabcdef>".indexOf(sign) >= 0;
            if (!digit) {
                stops("sign " + sign, DIGITS, "417" + (char) sign + ">", SIGN, 4, 0x41);
            }
        }
    }

    /** It ENDS: the one left over is lost. */
    private static void digitsThatEnd() {
        stops("nothing", DIGITS, "", ENDS, 0);
        stops("one", DIGITS, "4", ENDS, 1);
        stops("two", DIGITS, "41", ENDS, 2, 0x41);
        stops("three", DIGITS, "417", ENDS, 3, 0x41);
    }

    /** The byte of the one left over is one of the budget too. */
    private static void overAtTheEnd() {
        StreamFilters x = Rows.loaded(Rows.ofText("417>"), DIGITS);
        x.budget(1);
        Rows.decodesTo("one left over, budget 1", x, Rows.of(0x41));
        Rows.hasFault("one left over, budget 1", x, 0, StreamFilters.OVER, 4);
        x.budget(2);
        Rows.decodesTo("one left over, budget 2", x, Rows.of(0x41, 0x70));
        Rows.hasNoFault("one left over, budget 2", x);
    }

    // LENGTHS

    private static void lengths() {
        asTheyAre();
        endOfLengths();
        times();
        lengthsThatEnd();
        overInARun();
    }

    /** "A byte up to 127: so many bytes and one as they are": 0 is one byte, 127 are 128. */
    private static void asTheyAre() {
        for (int length : new int[] {0, 1, 126, 127}) {
            byte[] bytes = new byte[length + 1];
            for (int i = 0; i <= length; i++) {
                bytes[i] = (byte) (128 + i);
            }
            Filtered.gives("length " + length, LENGTHS, Rows.joined(Rows.of(length), bytes, Rows.of(128)), bytes);
            Filtered.stops("length " + length + ", one is missing", LENGTHS, Rows.joined(Rows.of(length),
                    Arrays.copyOf(bytes, length)), Arrays.copyOf(bytes, length), ENDS, length + 1);
        }
    }

    /** "128 ends": at once, and behind others; as a byte or as what is repeated it is like others. */
    private static void endOfLengths() {
        Filtered.gives("the end at once", LENGTHS, Rows.of(128), Rows.of());
        Filtered.gives("something behind the end", LENGTHS, Rows.of(128, 5), Rows.of());
        Filtered.gives("128 as it is", LENGTHS, Rows.of(0, 128, 128), Rows.of(128));
        Filtered.gives("128 twice", LENGTHS, Rows.of(255, 128, 128), Rows.of(128, 128));
    }

    /** "129 .. 255: 257 less it times the next byte": 129 is 128 times, 255 is twice. */
    private static void times() {
        for (int length : new int[] {129, 130, 254, 255}) {
            Filtered.gives("length " + length, LENGTHS, Rows.of(length, 200, 128), Filtered.many(257 - length, 200));
        }
    }

    /** It ENDS before a length, before what is repeated, and between those that are as they are. */
    private static void lengthsThatEnd() {
        Filtered.stops("nothing", LENGTHS, Rows.of(), Rows.of(), ENDS, 0);
        Filtered.stops("no end", LENGTHS, Rows.of(0, 7), Rows.of(7), ENDS, 2);
        Filtered.stops("no end behind a run", LENGTHS, Rows.of(255, 7), Rows.of(7, 7), ENDS, 2);
        Filtered.stops("nothing is repeated", LENGTHS, Rows.of(129), Rows.of(), ENDS, 1);
        Filtered.stops("nothing is as it is", LENGTHS, Rows.of(127), Rows.of(), ENDS, 1);
    }

    /** The byte that is too many has been read; of a run it is the one that is repeated. */
    private static void overInARun() {
        for (int budget = 0; budget <= 2; budget++) {
            StreamFilters x = Rows.loaded(Rows.of(2, 5, 6, 7, 128), LENGTHS);
            x.budget(budget);
            Rows.decodesTo("as they are, budget " + budget, x, Arrays.copyOf(Rows.of(5, 6, 7), budget));
            Rows.hasFault("as they are, budget " + budget, x, 0, StreamFilters.OVER, budget + 2);
            StreamFilters y = Rows.loaded(Rows.of(254, 9, 128), LENGTHS);
            y.budget(budget);
            Rows.decodesTo("a run, budget " + budget, y, Filtered.many(budget, 9));
            Rows.hasFault("a run, budget " + budget, y, 0, StreamFilters.OVER, 2);
        }
    }
}
