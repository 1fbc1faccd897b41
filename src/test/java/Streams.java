import java.io.ByteArrayOutputStream;
import java.util.Arrays;
import java.util.HashMap;
import java.util.Map;
import java.util.zip.Adler32;
import java.util.zip.Deflater;

/** Packs bytes as the filters unpack them. */
final class Streams {
    private Streams() {
    }

    /** LENGTHS: one byte so many times, in as few runs as can be. */
    static byte[] lengthsOfOne(int b, int many) {
        ByteArrayOutputStream out = new ByteArrayOutputStream();
        int left = many;
        while (left > 0) {
            int run = Math.min(128, left);
            if (run == 1) {
                out.write(0);
            } else {
                out.write(257 - run);
            }
            out.write(b);
            left -= run;
        }
        out.write(128);
        return out.toByteArray();
    }

    static byte[] lengthsOf(byte[] bytes) {
        ByteArrayOutputStream out = new ByteArrayOutputStream();
        int i = 0;
        while (i < bytes.length) {
            int run = 1;
            while (run < 128 && i + run < bytes.length && bytes[i + run] == bytes[i]) {
                run++;
            }
            if (run > 1) {
                out.write(257 - run);
                out.write(bytes[i]);
                i += run;
            } else {
                int many = Math.min(1 + i % 5, bytes.length - i);
                out.write(many - 1);
                out.write(bytes, i, many);
                i += many;
            }
        }
        out.write(128);
        return out.toByteArray();
    }

    static byte[] digitsOf(byte[] bytes) {
        StringBuilder out = new StringBuilder();
        for (byte b : bytes) {
            out.append(String.format("%02x", b & 255));
        }
        return Rows.ofText(out.append('>').toString());
    }

    static byte[] text85Of(byte[] bytes) {
        StringBuilder out = new StringBuilder();
        for (int i = 0; i < bytes.length; i += 4) {
            int many = Math.min(4, bytes.length - i);
            long number = 0;
            for (int k = 0; k < 4; k++) {
                number = number * 256 + (k < many ? bytes[i + k] & 255 : 0);
            }
            if (number == 0 && many == 4) {
                out.append('z');
                continue;
            }
            StringBuilder five = new StringBuilder();
            for (int k = 0; k < 5; k++) {
                five.append((char) (33 + number % 85));
                number /= 85;
            }
            out.append(five.reverse(), 0, many + 1);
        }
        return Rows.ofText(out.append("~>").toString());
    }

    /** LZW: a clear in front, and another one whenever clearAfter codes have been written since. */
    static byte[] lzwOf(byte[] bytes, int early, int clearAfter) {
        Bits out = new Bits();
        Map<String, Integer> strings = new HashMap<>();
        int width = 9;
        int next = 258;
        int written = 0;
        out.highNumber(256, width);
        int i = 0;
        while (i < bytes.length) {
            String found = String.valueOf((char) (bytes[i] & 255));
            int code = bytes[i] & 255;
            int end = i + 1;
            while (end < bytes.length && strings.containsKey(found + (char) (bytes[end] & 255))) {
                found += (char) (bytes[end] & 255);
                code = strings.get(found);
                end++;
            }
            out.highNumber(code, width);
            if (written > 0 && next <= 4095) {
                next++;
            }
            written++;
            if (end < bytes.length && 258 + strings.size() <= 4095) {
                strings.put(found + (char) (bytes[end] & 255), 258 + strings.size());
            }
            width = next + early >= 2048 ? 12 : next + early >= 1024 ? 11 : next + early >= 512 ? 10 : 9;
            if (written == clearAfter) {
                out.highNumber(256, width);
                strings.clear();
                width = 9;
                next = 258;
                written = 0;
            }
            i = end;
        }
        out.highNumber(257, width);
        return out.bytes();
    }

    /** FLATE, by the library's own packer. */
    static byte[] flateOf(byte[] bytes, int level, int strategy) {
        Deflater packer = new Deflater(level);
        packer.setStrategy(strategy);
        packer.setInput(bytes);
        packer.finish();
        byte[] room = new byte[bytes.length * 2 + 100];
        int many = 0;
        while (!packer.finished()) {
            many += packer.deflate(room, many, room.length - many);
        }
        packer.end();
        return Arrays.copyOf(room, many);
    }

    /** FLATE around blocks that were written by hand. */
    static byte[] flateAround(Bits blocks, byte[] due) {
        Adler32 check = new Adler32();
        check.update(due);
        int sum = (int) check.getValue();
        return Rows.joined(Rows.of(0x78, 0x9C), blocks.bytes(),
                Rows.of(sum >>> 24, sum >>> 16 & 255, sum >>> 8 & 255, sum & 255));
    }

    /** Bits that are written one behind the other; a stream takes either low or high ones. */
    static final class Bits {
        private final StringBuilder text = new StringBuilder();
        private boolean high = false;

        Bits lowNumber(int number, int bits) {
            for (int i = 0; i < bits; i++) {
                text.append(number >> i & 1);
            }
            return this;
        }

        Bits highNumber(int number, int bits) {
            high = true;
            for (int i = bits - 1; i >= 0; i--) {
                text.append(number >> i & 1);
            }
            return this;
        }

        /** A code, its first bit first. */
        Bits code(String bits) {
            text.append(bits);
            return this;
        }

        Bits wholeByte() {
            while (text.length() % 8 != 0) {
                text.append('0');
            }
            return this;
        }

        /** The literal's or length's code of a block of type 1. */
        Bits fixed(int symbol) {
            int from = symbol < 144 ? 48 + symbol : symbol < 256 ? 400 + symbol - 144
                    : symbol < 280 ? symbol - 256 : 192 + symbol - 280;
            int bits = symbol < 144 ? 8 : symbol < 256 ? 9 : symbol < 280 ? 7 : 8;
            for (int i = bits - 1; i >= 0; i--) {
                text.append(from >> i & 1);
            }
            return this;
        }

        /** The distance's code of a block of type 1. */
        Bits fixedDistance(int symbol) {
            for (int i = 4; i >= 0; i--) {
                text.append(symbol >> i & 1);
            }
            return this;
        }

        int length() {
            return text.length();
        }

        byte[] bytes() {
            byte[] out = new byte[(text.length() + 7) / 8];
            for (int i = 0; i < text.length(); i++) {
                if (text.charAt(i) == '1') {
                    out[i / 8] |= (byte) (1 << (high ? 7 - i % 8 : i % 8));
                }
            }
            return out;
        }
    }
}
