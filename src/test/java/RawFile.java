import java.io.ByteArrayOutputStream;
import java.nio.ByteBuffer;
import java.nio.ByteOrder;
import java.util.Arrays;
import java.util.zip.CRC32;

/** The bytes of a file, put together and altered by the tests without the class under test. */
final class RawFile {
    byte[] bytes;

    RawFile(byte[] bytes) {
        this.bytes = bytes;
    }

    static RawFile ofSize(int n) {
        return new RawFile(new byte[n]);
    }

    RawFile head(long entry, int tableBegin, int flags, int rows) {
        bytes(0, 127, 69, 76, 70, 1, 1, 1, 0, 0, 0, 0, 0, 0, 0, 0, 0);
        u2(16, 2).u2(18, 243).u4(20, 1).u4(24, entry).u4(28, tableBegin).u4(32, 0).u4(36, flags);
        return u2(40, 52).u2(42, 32).u2(44, rows).u2(46, 0).u2(48, 0).u2(50, 0);
    }

    RawFile row(int at, long... eight) {
        for (int i = 0; i < eight.length; i++) {
            u4(at + 4 * i, eight[i]);
        }
        return this;
    }

    RawFile note(int at, int length, int half, long sum, int... markBytes) {
        u4(at, 6).u4(at + 4, length - 20L).u4(at + 8, 1);
        bytes(at + 12, 77, 97, 114, 107, 115, 0, 0, 0);
        return u4(at + 20, half).u4(at + 24, sum).bytes(at + 28, markBytes);
    }

    RawFile u2(int at, int number) {
        return bytes(at, number, number >>> 8);
    }

    RawFile u4(int at, long number) {
        return u2(at, (int) number).u2(at + 2, (int) (number >>> 16));
    }

    RawFile bytes(int at, int... values) {
        for (int i = 0; i < values.length; i++) {
            bytes[at + i] = (byte) values[i];
        }
        return this;
    }

    RawFile cut(int n) {
        bytes = Arrays.copyOf(bytes, n);
        return this;
    }

    long getU4(int at) {
        return ByteBuffer.wrap(bytes).order(ByteOrder.LITTLE_ENDIAN).getInt(at) & 0xffffffffL;
    }

    int byteOrZero(int k) {
        return k < bytes.length ? bytes[k] & 255 : 0;
    }

    long highest(int k, int n) {
        long eight = 0;
        for (int i = 0; i < 8; i++) {
            eight = eight << 8 | (i < n ? bytes[k + i] & 255 : 0);
        }
        return eight;
    }

    /** THE SUM over parts: each an Integer (U4), or an int[] or byte[] of bytes. */
    static long sum(Object... parts) {
        ByteArrayOutputStream all = new ByteArrayOutputStream();
        for (Object part : parts) {
            if (part instanceof Integer) {
                int number = (Integer) part;
                for (int i = 0; i < 4; i++) {
                    all.write(number >>> 8 * i);
                }
            } else if (part instanceof int[]) {
                for (int b : (int[]) part) {
                    all.write(b);
                }
            } else {
                byte[] row = (byte[]) part;
                all.write(row, 0, row.length);
            }
        }
        CRC32 crc = new CRC32();
        crc.update(all.toByteArray());
        return crc.getValue();
    }
}
