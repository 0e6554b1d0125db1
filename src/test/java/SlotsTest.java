import java.util.Arrays;

/** Promises 1 to 9: the slots and the tape, sentence by sentence. */
public final class SlotsTest {
    private static final int FULL = Check.FULL;
    private static final int[] WRONG_SLOTS = {-1, 8, Integer.MIN_VALUE, Integer.MAX_VALUE};
    private static final int[] WRONG_SIZES = {-1, FULL + 1, Integer.MIN_VALUE, Integer.MAX_VALUE};

    public static void main(String[] args) {
        newObjectIsEmpty();
        memoryIsItsOwn();
        slotsHoldAll();
        fedBytes();
        fullTape();
        fedLength();
        endTakesSlots();
        endTakesSizes();
        endOfTooFew();
        endTakesFirstBytes();
        endEmptiesTape();
        copyTakesSlots();
        copyMakesAlike();
        resizeTakesSizes();
        resizeKeepsFirstBytes();
        alterTakesValues();
        alterTakesPlaces();
        alterChangesOneByte();
        lengths();
        wordsAtTheEnd();
        wordTakesPlaces();
        sameBytes();
        refusalsMeet();
        Check.end("SlotsTest");
    }

    private static void newObjectIsEmpty() {
        Check.says("Promise 1", "All SLOTS and the TAPE are empty.");
        LatticeSuite x = new LatticeSuite();
        for (int slot = 0; slot < 8; slot++) {
            Check.due("length", x.length(slot), 0);
            int it = slot;
            Check.fails("word", Check.INDEX, () -> x.word(it, 0));
            Check.fails("alter", Check.INDEX, () -> x.alter(it, 0, 0));
            Check.holds("same", x.same(slot, 7 - slot));
        }
        Check.fails("end(0, 1)", Check.INDEX, () -> x.end(0, 1));
        Check.due("end(0, 0)", x.end(0, 0), 0);
        Check.due("feed", new LatticeSuite().feed(1, 2, 3, 4, 5), 20);
    }

    private static void memoryIsItsOwn() {
        Check.says("Terms", "All memory is the suite's own.");
        LatticeSuite x = new LatticeSuite();
        LatticeSuite y = new LatticeSuite();
        Check.fill(x);
        Check.fill(y);
        LatticeSuite z = new LatticeSuite();
        for (int slot = 0; slot < 8; slot++) {
            Check.due("length in another object", z.length(slot), 0);
            z.resize(slot, 100);
            z.alter(slot, 99, 1);
        }
        z.feed(0, 0, 0, 0, 0);
        z.resize(Check.RANDOM, 64);
        z.kemKeys(0);
        z.digest(16, 500);
        Check.due("an object beside others", Check.picture(x), Check.picture(y));
    }

    private static void slotsHoldAll() {
        Check.says("Terms", "SLOTS 0 .. 7 hold BYTES, at most 65536 each, none at first");
        LatticeSuite x = new LatticeSuite();
        int[] order = {0, 1, 2, 4, 5, 7};
        byte[][] due = new byte[8][];
        for (int slot : order) {
            due[slot] = Check.putMany(x, slot, 40 + slot, FULL);
        }
        byte[] shared = Check.putMany(x, Check.MESSAGE, 60, FULL);
        Check.holds("MESSAGE is full, too", x.same(Check.MESSAGE, Check.SHARED));
        for (int slot = 0; slot < 8; slot++) {
            Check.due("a full slot", x.length(slot), FULL);
        }
        Check.slotIs("SHARED, full among full ones", x, Check.SHARED, shared);
        for (int slot : order) {
            Check.slotIs("slot " + slot + ", full among full ones", x, slot, due[slot]);
        }
    }

    private static void fedBytes() {
        Check.says("Promise 2", "The 20 BYTES of five ints, the highest of each first, come to the TAPE");
        LatticeSuite x = new LatticeSuite();
        x.feed(0x01020304, 0x05060708, 0x090a0b0c, 0x0d0e0f10, 0x11121314);
        x.feed(-1, 0, Integer.MIN_VALUE, Integer.MAX_VALUE, 0x80ff7f01);
        x.end(3, 40);
        Check.due("what was fed", Check.hex(Check.get(x, 3)),
                "0102030405060708090a0b0c0d0e0f1011121314" + "ffffffff00000000800000007fffffff80ff7f01");
    }

    /** It takes more calls than an object is promised for: no fewer fill the tape. */
    private static void fullTape() {
        Check.says("Promise 2", "it would have more than 65536: IndexOutOfBoundsException");
        LatticeSuite x = new LatticeSuite();
        Check.put(x, 1, Check.some(1, 20));
        for (int n = 20; n <= FULL; n += 20) {
            Check.due("feed", x.feed(n, 0, 0, 0, n), n);
        }
        for (int i = 0; i < 3; i++) {
            Check.fails("feed of a full tape", Check.INDEX, () -> x.feed(1, 2, 3, 4, 5));
        }
        Check.says("Terms", "The TAPE holds BYTES, too, at most 65536.");
        Check.fails("end of more than it holds", Check.INDEX, () -> x.end(0, FULL - 15));
        Check.due("end of all of it", x.end(0, FULL - 16), FULL - 16);
        Check.due("its first bytes", x.word(0, 0), 20L << 32);
        Check.due("its last bytes", x.word(0, FULL - 24), FULL - 16);
        Check.due("an empty tape again", x.feed(1, 2, 3, 4, 5), 20);
        Check.slotIs("another slot", x, 1, Check.some(1, 20));
    }

    private static void fedLength() {
        Check.says("Promise 2", "Answers its length.");
        LatticeSuite x = new LatticeSuite();
        for (int n = 20; n <= 200; n += 20) {
            Check.due("feed", x.feed(n, n, n, n, n), n);
        }
        Check.fails("end", Check.INDEX, () -> x.end(0, 201));
        Check.due("feed behind an end that threw", x.feed(0, 0, 0, 0, 0), 220);
        x.end(0, 1);
        Check.due("feed behind an end", x.feed(0, 0, 0, 0, 0), 20);
    }

    private static void endTakesSlots() {
        Check.says("Promise 3", "slot 0 .. 7 (so for all)");
        for (int slot = 0; slot < 8; slot++) {
            LatticeSuite x = new LatticeSuite();
            byte[] it = Check.some(slot, 20);
            Check.put(x, slot, it);
            Check.slotIs("end(" + slot + ", 20)", x, slot, it);
            for (int other = 0; other < 8; other++) {
                Check.due("length(" + other + ")", x.length(other), other == slot ? 20 : 0);
            }
        }
        for (int bad : WRONG_SLOTS) {
            refused("end(" + bad + ", 20)", Check.ARGUMENT, x -> x.end(bad, 20));
            refused("end(" + bad + ", 0)", Check.ARGUMENT, x -> x.end(bad, 0));
            refused("resize(" + bad + ", 0)", Check.ARGUMENT, x -> x.resize(bad, 0));
            refused("alter(" + bad + ", 0, 1)", Check.ARGUMENT, x -> x.alter(bad, 0, 1));
            refused("length(" + bad + ")", Check.ARGUMENT, x -> x.length(bad));
            refused("word(" + bad + ", 0)", Check.ARGUMENT, x -> x.word(bad, 0));
            refused("same(" + bad + ", 0)", Check.ARGUMENT, x -> x.same(bad, 0));
            refused("same(0, " + bad + ")", Check.ARGUMENT, x -> x.same(0, bad));
            refused("same of it with itself", Check.ARGUMENT, x -> x.same(bad, bad));
        }
    }

    /** Of an object that has bytes everywhere. */
    private static void refused(String what, Class<?> want, Check.Making call) {
        Check.failsAndChangesNothing(what, want, Check::fill, call);
    }

    private static void endTakesSizes() {
        Check.says("Promise 3", "n 0 .. 65536");
        for (int bad : WRONG_SIZES) {
            refused("end(0, " + bad + ")", Check.ARGUMENT, x -> x.end(0, bad));
        }
        refused("end(0, 65536): a number that is taken", Check.INDEX, x -> x.end(0, FULL));
        LatticeSuite x = new LatticeSuite();
        Check.fill(x);
        Check.due("end(0, 0)", x.end(0, 0), 0);
        Check.due("an empty slot", x.length(0), 0);
    }

    private static void endOfTooFew() {
        Check.says("Promise 3", "the TAPE has fewer: IndexOutOfBoundsException");
        refused("end(0, 41) of 40", Check.INDEX, x -> x.end(0, 41));
        LatticeSuite x = new LatticeSuite();
        Check.fill(x);
        Check.due("end(0, 40) of 40", x.end(0, 40), 40);
        Check.fails("end(0, 1) of none", Check.INDEX, () -> x.end(0, 1));
        Check.due("the slot stays", x.length(0), 40);
        Check.due("end(0, 0) of none", x.end(0, 0), 0);
    }

    private static void endTakesFirstBytes() {
        Check.says("Promise 3", "Its first n BYTES are the SLOT");
        byte[] it = Check.some(3, 40);
        for (int n : new int[] {0, 1, 7, 19, 20, 21, 39, 40}) {
            LatticeSuite x = new LatticeSuite();
            x.resize(5, 50);
            Check.put(x, 5, it);
            Check.put(x, 6, it);
            for (int i = 0; i < 40; i += 20) {
                x.feed((int) (x.word(6, i) >> 32), (int) x.word(6, i), (int) (x.word(6, i + 8) >> 32),
                        (int) x.word(6, i + 8), (int) (x.word(6, i + 16) >> 32));
            }
            Check.due("end(5, " + n + ")", x.end(5, n), n);
            Check.slotIs("end(5, " + n + ")", x, 5, Arrays.copyOf(it, n));
        }
    }

    private static void endEmptiesTape() {
        Check.says("Promise 3", "the TAPE is empty then. Answers n.");
        for (int n : new int[] {0, 1, 39, 40}) {
            LatticeSuite x = new LatticeSuite();
            Check.fill(x);
            Check.due("end", x.end(5, n), n);
            Check.fails("the rest is gone", Check.INDEX, () -> x.end(5, 1));
            Check.due("feed", x.feed(0x0a0b0c0d, 0, 0, 0, 0), 20);
            x.end(5, 4);
            Check.due("the new bytes are the first", x.word(5, 0), 0x0a0b0c0d00000000L);
        }
    }

    private static void copyTakesSlots() {
        Check.says("Promise 4", "from, to 0 .. 7");
        for (int from = 0; from < 8; from++) {
            for (int to = 0; to < 8; to++) {
                LatticeSuite x = new LatticeSuite();
                Check.fill(x);
                Check.due("copy", x.copy(from, to), 41 + 2 * from);
                Check.slotIs("copy(" + from + ", " + to + ")", x, to, Check.some(20 + from, 41 + 2 * from));
                Check.slotIs("from stays", x, from, Check.some(20 + from, 41 + 2 * from));
            }
        }
        for (int bad : WRONG_SLOTS) {
            refused("copy(" + bad + ", 0)", Check.ARGUMENT, x -> x.copy(bad, 0));
            refused("copy(0, " + bad + ")", Check.ARGUMENT, x -> x.copy(0, bad));
            refused("copy of it onto itself", Check.ARGUMENT, x -> x.copy(bad, bad));
        }
    }

    private static void copyMakesAlike() {
        Check.says("Promise 4", "to becomes as from is. Answers its length.");
        LatticeSuite x = new LatticeSuite();
        byte[] it = Check.some(4, 33);
        Check.put(x, 1, it);
        Check.put(x, 7, Check.some(5, 50));
        Check.due("copy over more", x.copy(1, 7), 33);
        Check.slotIs("copied", x, 7, it);
        Check.put(x, 7, Check.some(5, 3));
        Check.due("copy over fewer", x.copy(1, 7), 33);
        Check.slotIs("copied", x, 7, it);
        x.alter(7, 0, 255);
        Check.slotIs("each is its own", x, 1, it);
        Check.due("copy of nothing", x.copy(0, 7), 0);
        Check.due("it is empty", x.length(7), 0);
        Check.due("copy of nothing over nothing", x.copy(0, 7), 0);
        byte[] many = Check.putMany(x, 2, 9, FULL);
        Check.due("copy of a full one", x.copy(2, 4), FULL);
        Check.due("onto itself", x.copy(4, 4), FULL);
        Check.slotIs("copied", x, 4, many);
    }

    private static void resizeTakesSizes() {
        Check.says("Promise 5", "n 0 .. 65536");
        for (int bad : WRONG_SIZES) {
            refused("resize(4, " + bad + ")", Check.ARGUMENT, x -> x.resize(4, bad));
        }
        for (int slot = 0; slot < 8; slot++) {
            LatticeSuite x = new LatticeSuite();
            Check.due("resize", x.resize(slot, FULL), 0);
            Check.due("length", x.length(slot), FULL);
            Check.due("resize", x.resize(slot, 0), FULL);
            Check.due("length", x.length(slot), 0);
            Check.due("resize of none to none", x.resize(slot, 0), 0);
        }
    }

    private static void resizeKeepsFirstBytes() {
        Check.says("Promise 5", "the SLOT has n BYTES, the first ones it had, and zeros behind them."
                + " Answers how many it had.");
        LatticeSuite x = new LatticeSuite();
        byte[] it = Check.some(6, 30);
        Check.put(x, 4, it);
        Check.due("resize to as many", x.resize(4, 30), 30);
        Check.slotIs("the same", x, 4, it);
        Check.due("resize down", x.resize(4, 10), 30);
        Check.slotIs("the first ones", x, 4, Arrays.copyOf(it, 10));
        Check.due("resize up", x.resize(4, 40), 10);
        Check.slotIs("zeros behind", x, 4, Arrays.copyOf(Arrays.copyOf(it, 10), 40));
        Check.due("resize to all", x.resize(4, FULL), 40);
        Check.slotIs("zeros up to the end", x, 4, Arrays.copyOf(Arrays.copyOf(it, 10), FULL));
        byte[] many = Check.putMany(x, 4, 9, FULL);
        Check.due("resize of a full one by one", x.resize(4, FULL - 1), FULL);
        Check.due("and back", x.resize(4, FULL), FULL - 1);
        Check.slotIs("a zero at its end", x, 4, Arrays.copyOf(Arrays.copyOf(many, FULL - 1), FULL));
        x.resize(4, 0);
        x.resize(4, FULL);
        Check.slotIs("zeros alone", x, 4, new byte[FULL]);
    }

    private static void alterTakesValues() {
        Check.says("Promise 6", "v 0 .. 255");
        LatticeSuite x = new LatticeSuite();
        x.resize(0, 1);
        int is = 0;
        for (int v = 0; v < 256; v++) {
            is ^= v;
            Check.due("alter", x.alter(0, 0, v), is);
        }
        for (int bad : new int[] {-1, 256, Integer.MIN_VALUE, Integer.MAX_VALUE}) {
            refused("alter(0, 0, " + bad + ")", Check.ARGUMENT, y -> y.alter(0, 0, bad));
        }
    }

    private static void alterTakesPlaces() {
        Check.says("Promise 6", "there is none: IndexOutOfBoundsException");
        for (int bad : new int[] {-1, 41, Integer.MIN_VALUE, Integer.MAX_VALUE}) {
            refused("alter(0, " + bad + ", 1) of 41", Check.INDEX, x -> x.alter(0, bad, 1));
        }
        LatticeSuite x = new LatticeSuite();
        Check.fill(x);
        byte[] it = Check.some(20, 41);
        Check.due("the first", x.alter(0, 0, 1), it[0] & 255 ^ 1);
        Check.due("the last", x.alter(0, 40, 1), it[40] & 255 ^ 1);
        x.resize(0, FULL);
        Check.due("the last of a full one", x.alter(0, FULL - 1, 200), 200);
        Check.fails("alter(0, 65536, 1)", Check.INDEX, () -> x.alter(0, FULL, 1));
        x.resize(0, 0);
        Check.fails("alter(0, 0, 1) of none", Check.INDEX, () -> x.alter(0, 0, 1));
    }

    private static void alterChangesOneByte() {
        Check.says("Promise 6", "Byte i of a SLOT is v ^ what it is");
        LatticeSuite x = new LatticeSuite();
        Check.put(x, 0, new byte[] {0x0f, (byte) 0xf0, 0x55});
        Check.due("alter", x.alter(0, 0, 255), 0xf0);
        Check.due("alter", x.alter(0, 1, 0x81), 0x71);
        Check.due("alter by nothing", x.alter(0, 1, 0), 0x71);
        Check.due("altered", Check.hex(Check.get(x, 0)), "f07155");
        Check.due("other slots", x.length(1), 0);
        Check.says("Promise 6", "Answers what it is now.");
        Check.due("the highest bit", x.alter(0, 2, 0x80), 0xd5);
    }

    private static void lengths() {
        Check.says("Promise 7", "How many BYTES.");
        for (int n : new int[] {0, 1, 255, 256, 32767, 32768, FULL - 1, FULL}) {
            LatticeSuite x = new LatticeSuite();
            x.resize(7, n);
            Check.due("length", x.length(7), n);
            Check.due("of another", x.length(0), 0);
        }
    }

    private static void wordsAtTheEnd() {
        Check.says("Promise 8", "8 BYTES from i on, the highest first, zeros behind the end");
        LatticeSuite x = new LatticeSuite();
        byte[] it = {(byte) 0x81, 2, 3, 4, 5, 6, 7, 8, 9};
        Check.put(x, 6, it);
        Check.due("word", x.word(6, 0), 0x8102030405060708L);
        Check.due("up to the end", x.word(6, 1), 0x0203040506070809L);
        Check.due("a byte over the end", x.word(6, 2), 0x0304050607080900L);
        Check.due("the last byte", x.word(6, 8), 0x0900000000000000L);
        x.resize(6, 3);
        Check.due("nothing old behind the end", x.word(6, 0), 0x8102030000000000L);
        byte[] many = Check.putMany(x, 5, 3, FULL);
        for (int i : new int[] {FULL - 9, FULL - 8, FULL - 7, FULL - 1}) {
            long due = 0;
            for (int j = i; j < i + 8; j++) {
                due = due << 8 | (j < FULL ? many[j] & 255 : 0);
            }
            Check.due("word(5, " + i + ") of a full one", x.word(5, i), due);
        }
    }

    private static void wordTakesPlaces() {
        Check.says("Promise 8", "i is not one of the SLOT: IndexOutOfBoundsException");
        for (int bad : new int[] {-1, 41, Integer.MIN_VALUE, Integer.MAX_VALUE}) {
            refused("word(0, " + bad + ") of 41", Check.INDEX, x -> x.word(0, bad));
        }
        LatticeSuite x = new LatticeSuite();
        Check.fails("word(0, 0) of none", Check.INDEX, () -> x.word(0, 0));
        x.resize(0, FULL);
        Check.due("word(0, 65535)", x.word(0, FULL - 1), 0);
        Check.fails("word(0, 65536)", Check.INDEX, () -> x.word(0, FULL));
    }

    private static void sameBytes() {
        Check.says("Promise 9", "Whether two SLOTS have the same BYTES.");
        LatticeSuite x = new LatticeSuite();
        Check.holds("two empty ones", x.same(0, 1));
        Check.put(x, 0, Check.some(7, 25));
        Check.holds("an empty one", !x.same(0, 1) && !x.same(1, 0));
        Check.put(x, 1, Check.some(7, 25));
        Check.holds("the same bytes", x.same(0, 1) && x.same(1, 0));
        Check.holds("itself", x.same(0, 0));
        for (int i = 0; i < 25; i++) {
            x.alter(1, i, 128);
            Check.holds("another byte", !x.same(0, 1));
            x.alter(1, i, 128);
        }
        x.resize(1, 24);
        Check.holds("a byte less", !x.same(0, 1) && !x.same(1, 0));
        x.resize(1, 25);
        x.resize(0, 24);
        x.resize(0, 25);
        Check.holds("the same again", x.same(0, 1));
        x.resize(0, 26);
        Check.holds("a zero more", !x.same(0, 1) && !x.same(1, 0));
        Check.putMany(x, 2, 5, FULL);
        x.copy(2, 7);
        Check.holds("two full ones", x.same(2, 7) && x.same(7, 2));
        x.alter(7, FULL - 1, 1);
        Check.holds("another last byte", !x.same(2, 7) && !x.same(7, 2));
    }

    private static void refusalsMeet() {
        Check.says("Terms", "What is thrown, in this order: IllegalArgumentException: a number out of range;"
                + " then as the call says.");
        for (int bad : new int[] {-1, 8}) {
            refused("end: slot, and too few", Check.ARGUMENT, x -> x.end(bad, 41));
            refused("end: slot, and too few", Check.ARGUMENT, x -> x.end(bad, FULL));
            refused("end: slot, and n", Check.ARGUMENT, x -> x.end(bad, FULL + 1));
            refused("alter: slot, and i", Check.ARGUMENT, x -> x.alter(bad, 99, 1));
            refused("word: slot, and i", Check.ARGUMENT, x -> x.word(bad, -1));
        }
        refused("end: n, and too few", Check.ARGUMENT, x -> x.end(0, FULL + 1));
        for (int bad : new int[] {-1, 256}) {
            refused("alter: v, and i", Check.ARGUMENT, x -> x.alter(0, 41, bad));
            refused("alter: v, and i", Check.ARGUMENT, x -> x.alter(0, -1, bad));
            Check.fails("alter: v, and an empty slot", Check.ARGUMENT, () -> new LatticeSuite().alter(0, 0, bad));
        }
    }
}
