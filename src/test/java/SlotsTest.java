import java.util.Arrays;

/** Promises 1 to 9 and 21: the slots and the tape. */
public final class SlotsTest {
    private static final int LIMIT = 65536;

    public static void main(String[] args) {
        newObject();
        feed();
        fullTape();
        end();
        copy();
        resize();
        alter();
        lengthAndWord();
        same();
        slotsOfCalls();
        Check.end("SlotsTest");
    }

    private static void newObject() {
        LatticeSuite x = new LatticeSuite();
        for (int slot = 0; slot < 8; slot++) {
            Check.due("length of a new object", x.length(slot), 0);
            int it = slot;
            Check.fails("word of a new object", Check.INDEX, () -> x.word(it, 0));
            Check.fails("alter of a new object", Check.INDEX, () -> x.alter(it, 0, 0));
        }
        Check.fails("end of a new tape", Check.INDEX, () -> x.end(0, 1));
        Check.due("end of nothing", x.end(0, 0), 0);
        Check.put(x, 2, Check.some(1, 9));
        Check.due("another object stays empty", new LatticeSuite().length(2), 0);
    }

    private static void feed() {
        LatticeSuite x = new LatticeSuite();
        Check.due("feed", x.feed(0x01020304, 0x05060708, 0x090a0b0c, 0x0d0e0f10, 0x11121314), 20);
        Check.due("feed", x.feed(-1, 0, Integer.MIN_VALUE, Integer.MAX_VALUE, 0x80ff7f01), 40);
        x.end(3, 40);
        Check.due("what was fed", Check.hex(Check.get(x, 3)),
                "0102030405060708090a0b0c0d0e0f1011121314" + "ffffffff00000000800000007fffffff80ff7f01");
        Check.due("feed after end", x.feed(0, 0, 0, 0, 0), 20);
    }

    private static void fullTape() {
        LatticeSuite x = new LatticeSuite();
        for (int n = 20; n <= LIMIT; n += 20) {
            Check.due("feed", x.feed(n, 0, 0, 0, n), n);
        }
        Check.fails("feed of a full tape", Check.INDEX, () -> x.feed(1, 2, 3, 4, 5));
        Check.fails("end of more than it holds", Check.INDEX, () -> x.end(0, 65521));
        Check.due("end of a full tape", x.end(0, 65520), 65520);
        Check.due("its last bytes", x.word(0, 65512), 65520);
    }

    private static void end() {
        LatticeSuite x = new LatticeSuite();
        byte[] it = Check.some(3, 40);
        Check.put(x, 5, it);
        Check.bytes("end", Check.get(x, 5), it);
        x.feed(0x0a0b0c0d, 0, 0, 0, 0);
        Check.due("end of a part", x.end(5, 3), 3);
        Check.due("what came of it", Check.hex(Check.get(x, 5)), "0a0b0c");
        Check.fails("the rest is gone", Check.INDEX, () -> x.end(5, 1));
        x.feed(9, 9, 9, 9, 9);
        Check.fails("end(-1, 0)", Check.ARGUMENT, () -> x.end(-1, 0));
        Check.fails("end(8, 0)", Check.ARGUMENT, () -> x.end(8, 0));
        Check.fails("end(0, -1)", Check.ARGUMENT, () -> x.end(0, -1));
        Check.fails("end(0, 65537)", Check.ARGUMENT, () -> x.end(0, LIMIT + 1));
        Check.fails("end(8, 65536), the number first", Check.ARGUMENT, () -> x.end(8, LIMIT));
        Check.fails("end(5, 65536)", Check.INDEX, () -> x.end(5, LIMIT));
        Check.fails("end(5, 21)", Check.INDEX, () -> x.end(5, 21));
        Check.due("the slot is as it was", Check.hex(Check.get(x, 5)), "0a0b0c");
        Check.due("the tape is as it was", x.feed(0, 0, 0, 0, 0), 40);
        Check.due("end of nothing", x.end(5, 0), 0);
        Check.due("it empties the slot", x.length(5), 0);
        Check.due("and the tape", x.feed(0, 0, 0, 0, 0), 20);
    }

    private static void copy() {
        LatticeSuite x = new LatticeSuite();
        byte[] it = Check.some(4, 33);
        Check.put(x, 1, it);
        Check.put(x, 7, Check.some(5, 50));
        Check.due("copy", x.copy(1, 7), 33);
        Check.bytes("copied", Check.get(x, 7), it);
        Check.due("copy onto itself", x.copy(7, 7), 33);
        x.alter(7, 0, 255);
        Check.bytes("the first is its own", Check.get(x, 1), it);
        Check.due("copy of nothing", x.copy(0, 7), 0);
        Check.due("it empties", x.length(7), 0);
        for (int bad : new int[] {-1, 8, Integer.MIN_VALUE, Integer.MAX_VALUE}) {
            Check.fails("copy from " + bad, Check.ARGUMENT, () -> x.copy(bad, 0));
            Check.fails("copy to " + bad, Check.ARGUMENT, () -> x.copy(0, bad));
        }
    }

    private static void resize() {
        LatticeSuite x = new LatticeSuite();
        byte[] it = Check.some(6, 30);
        Check.put(x, 4, it);
        Check.due("resize down", x.resize(4, 10), 30);
        Check.due("resize up", x.resize(4, 40), 10);
        Check.bytes("zeros behind", Check.get(x, 4), Arrays.copyOf(Arrays.copyOf(it, 10), 40));
        Check.due("resize to all", x.resize(4, LIMIT), 40);
        Check.due("the last byte", x.alter(4, LIMIT - 1, 7), 7);
        Check.due("resize to none", x.resize(4, 0), LIMIT);
        Check.due("resize to all", x.resize(4, LIMIT), 0);
        Check.due("the last byte is zero again", x.word(4, LIMIT - 1), 0);
        Check.due("and the first", x.word(4, 0), 0);
        Check.fails("resize(8, 0)", Check.ARGUMENT, () -> x.resize(8, 0));
        Check.fails("resize(-1, 0)", Check.ARGUMENT, () -> x.resize(-1, 0));
        Check.fails("resize(4, -1)", Check.ARGUMENT, () -> x.resize(4, -1));
        Check.fails("resize(4, 65537)", Check.ARGUMENT, () -> x.resize(4, LIMIT + 1));
        Check.due("as it was", x.length(4), LIMIT);
    }

    private static void alter() {
        LatticeSuite x = new LatticeSuite();
        Check.put(x, 0, new byte[] {0x0f, (byte) 0xf0});
        Check.due("alter", x.alter(0, 0, 255), 0xf0);
        Check.due("alter", x.alter(0, 1, 0x81), 0x71);
        Check.due("alter by nothing", x.alter(0, 1, 0), 0x71);
        Check.due("altered", Check.hex(Check.get(x, 0)), "f071");
        Check.fails("alter(0, 2, 1)", Check.INDEX, () -> x.alter(0, 2, 1));
        Check.fails("alter(0, -1, 1)", Check.INDEX, () -> x.alter(0, -1, 1));
        Check.fails("alter(0, 2, 256), the number first", Check.ARGUMENT, () -> x.alter(0, 2, 256));
        Check.fails("alter(0, 0, -1)", Check.ARGUMENT, () -> x.alter(0, 0, -1));
        Check.fails("alter(0, 0, 256)", Check.ARGUMENT, () -> x.alter(0, 0, 256));
        Check.fails("alter(8, 0, 1)", Check.ARGUMENT, () -> x.alter(8, 0, 1));
        Check.fails("alter(-1, 0, 1)", Check.ARGUMENT, () -> x.alter(-1, 0, 1));
        Check.due("as it was", Check.hex(Check.get(x, 0)), "f071");
    }

    private static void lengthAndWord() {
        LatticeSuite x = new LatticeSuite();
        Check.put(x, 6, new byte[] {(byte) 0x81, 2, 3, 4, 5, 6, 7, 8, 9});
        Check.due("length", x.length(6), 9);
        Check.fails("length(8)", Check.ARGUMENT, () -> x.length(8));
        Check.fails("length(-1)", Check.ARGUMENT, () -> x.length(-1));
        Check.due("word", x.word(6, 0), 0x8102030405060708L);
        Check.due("word to the end", x.word(6, 1), 0x0203040506070809L);
        Check.due("word over the end", x.word(6, 2), 0x0304050607080900L);
        Check.due("the last byte", x.word(6, 8), 0x0900000000000000L);
        x.resize(6, 3);
        Check.due("nothing old behind the end", x.word(6, 0), 0x8102030000000000L);
        for (int bad : new int[] {-1, 3, Integer.MIN_VALUE, Integer.MAX_VALUE}) {
            Check.fails("word(6, " + bad + ")", Check.INDEX, () -> x.word(6, bad));
        }
        Check.fails("word(8, 99), the number first", Check.ARGUMENT, () -> x.word(8, 99));
        Check.fails("word(-1, 0)", Check.ARGUMENT, () -> x.word(-1, 0));
    }

    private static void same() {
        LatticeSuite x = new LatticeSuite();
        Check.holds("two empty slots", x.same(0, 1));
        Check.put(x, 0, Check.some(7, 25));
        Check.put(x, 1, Check.some(7, 25));
        Check.holds("the same bytes", x.same(0, 1));
        Check.holds("itself", x.same(0, 0));
        x.alter(1, 24, 1);
        Check.holds("another last byte", !x.same(0, 1));
        x.alter(1, 24, 1);
        x.resize(1, 24);
        Check.holds("a byte less", !x.same(0, 1) && !x.same(1, 0));
        x.resize(0, 24);
        Check.holds("the same again", x.same(0, 1));
        for (int bad : new int[] {-1, 8}) {
            Check.fails("same(" + bad + ", 0)", Check.ARGUMENT, () -> x.same(bad, 0));
            Check.fails("same(0, " + bad + ")", Check.ARGUMENT, () -> x.same(0, bad));
        }
    }

    /** A call takes its parts from the slots of their names and leaves all the others alone. */
    private static void slotsOfCalls() {
        LatticeSuite x = new LatticeSuite();
        byte[] spare = Check.some(8, 12);
        byte[] context = Check.some(9, 3);
        byte[] random = Check.some(10, 64);
        Check.put(x, Check.SPARE, spare);
        Check.put(x, Check.CONTEXT, context);
        Check.put(x, Check.RANDOM, random);
        x.feed(1, 2, 3, 4, 5);
        x.kemKeys(0);
        Check.bytes("RANDOM stays", Check.get(x, Check.RANDOM), random);
        Check.due("PACKET stays", x.length(Check.PACKET), 0);
        Check.due("SHARED stays", x.length(Check.SHARED), 0);
        Check.due("MESSAGE stays", x.length(Check.MESSAGE), 0);
        x.resize(Check.RANDOM, 32);
        x.kemWrap(0);
        Check.due("PUBLIC stays", x.length(Check.PUBLIC), 800);
        Check.due("SECRET stays", x.length(Check.SECRET), 1632);
        Check.bytes("CONTEXT stays", Check.get(x, Check.CONTEXT), context);
        Check.bytes("SPARE stays", Check.get(x, Check.SPARE), spare);
        Check.due("the TAPE stays", x.feed(0, 0, 0, 0, 0), 40);
    }
}
