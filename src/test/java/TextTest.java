import java.util.Arrays;
import java.util.Random;

/** Promise 9, TEXT 85 and HEXADECIMAL: digits, blanks, ends, their faults and their places. */
final class TextTest {
    private static final int TEXT = 2;
    private static final int DIGITS = 3;

    private TextTest() {
    }

    public static void main(String[] args) {
        packed();
        blanks();
        signsOf85();
        endOf85();
        range();
        signsOfDigits();
        endOfDigits();
        over();
        Check.end();
    }

    private static void good(String what, int kind, String row, int... due) {
        StreamFilters x = Rows.loaded(Rows.ofText(row), kind);
        Rows.decodesTo(what, x, Rows.of(due));
        Rows.hasNoFault(what, x);
    }

    private static void faulty(String what, int kind, String row, int fault, int place, int... due) {
        StreamFilters x = Rows.loaded(Rows.ofText(row), kind);
        Rows.decodesTo(what, x, Rows.of(due));
        Rows.hasFault(what, x, 0, fault, place);
    }

    private static void packed() {
        Random random = new Random(4);
        for (int size = 0; size < 40; size++) {
            byte[] bytes = new byte[size];
            random.nextBytes(bytes);
            if (size > 20) {
                Arrays.fill(bytes, 4, 12, (byte) 0);
            }
            StreamFilters x = Rows.loaded(Streams.text85Of(bytes), TEXT);
            Rows.decodesTo("text of 85, " + size, x, bytes);
            Rows.hasNoFault("text of 85, " + size, x);
            StreamFilters y = Rows.loaded(Streams.digitsOf(bytes), DIGITS);
            Rows.decodesTo("digits, " + size, y, bytes);
            Rows.hasNoFault("digits, " + size, y);
        }
        good("a known text", TEXT, "87cURD]~>", 'H', 'e', 'l', 'l', 'o');
        good("capital digits", DIGITS, "0123456789abcdefABCDEF>", 0x01, 0x23, 0x45, 0x67, 0x89, 0xAB, 0xCD, 0xEF, 0xAB,
                0xCD, 0xEF);
    }

    private static void blanks() {
        for (int sign = 0; sign < 33; sign++) {
            boolean isBlank = sign == 0 || sign == 9 || sign == 10 || sign == 12 || sign == 13 || sign == 32;
            String blank = String.valueOf((char) sign);
            if (isBlank) {
                good("blank " + sign, TEXT, blank + "8" + blank + blank + "7cUR" + blank + "~>", 'H', 'e', 'l', 'l');
                good("blank " + sign, DIGITS, blank + "4" + blank + "8" + blank + ">", 0x48);
                faulty("blank between 126 and 62", TEXT, "87cUR~" + blank + ">", StreamFilters.SIGN, 7, 'H', 'e', 'l', 'l');
                faulty("blanks, and it ends", TEXT, blank + blank, StreamFilters.ENDS, 2);
                faulty("blanks, and it ends", DIGITS, blank + blank, StreamFilters.ENDS, 2);
            } else {
                faulty("no blank " + sign, TEXT, "8" + blank + "7cUR~>", StreamFilters.SIGN, 2);
                faulty("no blank " + sign, DIGITS, "48" + blank + ">", StreamFilters.SIGN, 3, 0x48);
            }
        }
    }

    private static void signsOf85() {
        for (int sign = 33; sign < 256; sign++) {
            String row = "!!!!" + (char) sign + "~>";
            if (sign <= 117) {
                good("sign " + sign, TEXT, row, 0, 0, 0, sign - 33);
            } else if (sign == 126) {
                faulty("sign 126 twice", TEXT, row, StreamFilters.SIGN, 6);
            } else {
                faulty("sign " + sign, TEXT, row, StreamFilters.SIGN, 5);
            }
        }
        good("122", TEXT, "z z~>", 0, 0, 0, 0, 0, 0, 0, 0);
        good("122 behind five", TEXT, "!!!!\"z~>", 0, 0, 0, 1, 0, 0, 0, 0);
        for (int many = 1; many < 5; many++) {
            faulty("122 behind " + many, TEXT, "!!!!".substring(4 - many) + "z~>", StreamFilters.SIGN, many + 1);
        }
        faulty("an end that is none", TEXT, "z~~>", StreamFilters.SIGN, 3, 0, 0, 0, 0);
        faulty("62 alone is a digit", TEXT, ">>>>>", StreamFilters.ENDS, 5, 91, 78, 5, 25);
    }

    private static void endOf85() {
        good("nothing", TEXT, "~>");
        good("something behind", TEXT, "~>???z", new int[0]);
        faulty("one left over", TEXT, "5~>", StreamFilters.SIGN, 3);
        faulty("one left over, 62 is missing", TEXT, "5~5", StreamFilters.SIGN, 3);
        faulty("one left over, and it ends", TEXT, "5~", StreamFilters.ENDS, 2);
        faulty("two left over, 62 is missing", TEXT, "55~?", StreamFilters.SIGN, 4);
        faulty("it ends", TEXT, "", StreamFilters.ENDS, 0);
        faulty("it ends behind five", TEXT, "87cUR", StreamFilters.ENDS, 5, 'H', 'e', 'l', 'l');
        faulty("it ends with two left over", TEXT, "87cURD]", StreamFilters.ENDS, 7, 'H', 'e', 'l', 'l');
        faulty("it ends behind 126", TEXT, "87cUR~", StreamFilters.ENDS, 6, 'H', 'e', 'l', 'l');
        good("two left over", TEXT, "5s~>", 65);
        good("three left over", TEXT, "5sb~>", 65, 66);
        good("four left over", TEXT, "5sdp~>", 65, 66, 67);
    }

    private static void range() {
        good("the highest number", TEXT, "s8W-!~>", 255, 255, 255, 255);
        faulty("one more", TEXT, "s8W-\"~>", StreamFilters.RANGE, 5);
        faulty("far more, when the fifth is read", TEXT, "u uuuu~>", StreamFilters.RANGE, 6);
        faulty("four of them, and it ends", TEXT, "uuuu", StreamFilters.ENDS, 4);
        faulty("after a good one", TEXT, "zuuuuu", StreamFilters.RANGE, 6, 0, 0, 0, 0);
        good("two that are high", TEXT, "rr~>", 255);
        faulty("two that are too high", TEXT, "s8~>", StreamFilters.RANGE, 4);
        faulty("three that are too high", TEXT, "s8W~>", StreamFilters.RANGE, 5);
        faulty("four that are too high", TEXT, "s8W-~>", StreamFilters.RANGE, 6);
        good("three that are the highest", TEXT, "s8V~>", 255, 255);
        faulty("too high, and 62 is missing", TEXT, "uu~?", StreamFilters.SIGN, 4);
    }

    private static void signsOfDigits() {
        for (int sign = 33; sign < 256; sign++) {
            int digit = sign == 62 ? -1 : Character.digit((char) sign, 16);
            if (sign < 128 && digit >= 0) {
                good("digit " + sign, DIGITS, "7" + (char) sign + ">", 0x70 + digit);
            } else if (sign != 62) {
                faulty("sign " + sign, DIGITS, "7" + (char) sign + ">", StreamFilters.SIGN, 2);
            }
        }
    }

    private static void endOfDigits() {
        good("nothing", DIGITS, ">");
        good("one left over", DIGITS, "41 7>", 0x41, 0x70);
        good("something behind", DIGITS, "41>42?", 0x41);
        faulty("it ends", DIGITS, "", StreamFilters.ENDS, 0);
        faulty("it ends behind two", DIGITS, "41", StreamFilters.ENDS, 2, 0x41);
        faulty("it ends with one left over", DIGITS, "417", StreamFilters.ENDS, 3, 0x41);
    }

    private static void over() {
        // the third byte comes only at the end
        StreamFilters x = Rows.loaded(Rows.ofText("41424 >"), DIGITS);
        x.budget(2);
        Rows.decodesTo("digits: the end gives one too many", x, Rows.ofText("AB"));
        Rows.hasFault("digits: the end gives one too many", x, 0, StreamFilters.OVER, 7);

        int[] places = {5, 5, 5, 5, 6, 6, 6, 6, 10, 10};
        byte[] due = Rows.of('H', 'e', 'l', 'l', 0, 0, 0, 0, 65, 66);
        for (int budget = 0; budget < 10; budget++) {
            StreamFilters y = Rows.loaded(Rows.ofText("87cURz5sb~>"), TEXT);
            y.budget(budget);
            Rows.decodesTo("text of 85, budget " + budget, y, Arrays.copyOf(due, budget));
            Rows.hasFault("text of 85, budget " + budget, y, 0, StreamFilters.OVER, budget < 8 ? places[budget] : 11);
        }
        StreamFilters y = Rows.loaded(Rows.ofText("87cURz5sb~>"), TEXT);
        y.budget(10);
        Rows.decodesTo("text of 85, budget 10", y, due);
        Rows.hasNoFault("text of 85, budget 10", y);
    }
}
