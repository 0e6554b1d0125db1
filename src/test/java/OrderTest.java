import java.util.Arrays;

/** Promise 21: which slots a call takes and makes, and that it leaves the others and the tape alone. */
public final class OrderTest {
    private static final int TAPE = 8;

    public static void main(String[] args) {
        callsOfSlots();
        for (int set = 0; set < 3; set++) {
            kem(set);
            dsa(set);
        }
        for (int set : new int[] {1, 3, 5, 7, 9, 11}) {
            slh(set);
        }
        callsOneAfterAnother();
        asManyCallsAsThereMayBe();
        Check.end("OrderTest");
    }

    /** That a call changes these and nothing else. */
    private static void changes(String what, Check.Making making, Check.Making call, int... slots) {
        LatticeSuite x = new LatticeSuite();
        LatticeSuite y = new LatticeSuite();
        making.make(x);
        making.make(y);
        call.make(x);
        String[] after = Check.pictures(x);
        String[] before = Check.pictures(y);
        for (int i = 0; i < 9; i++) {
            int it = i;
            boolean should = Arrays.stream(slots).anyMatch(slot -> slot == it);
            Check.due(what + " changes " + (i == TAPE ? "the tape" : "slot " + i), !after[i].equals(before[i]), should);
        }
    }

    /**
     * That nothing of a slot that was full can be seen behind what a call has made of it. A slot that nothing was
     * ever put into has zeros there: so SPARE, which the making leaves alone, tells how it should be.
     */
    private static void leavesNoRest(String what, Check.Making making, Check.Making call, int... slots) {
        for (int slot : slots) {
            LatticeSuite x = new LatticeSuite();
            Check.putMany(x, slot, 3, Check.FULL);
            making.make(x);
            call.make(x);
            Check.holds(what + " makes less than a slot can hold", x.length(slot) < Check.FULL);
            x.copy(slot, Check.SPARE);
            x.resize(slot, Check.FULL);
            x.resize(Check.SPARE, Check.FULL);
            Check.holds(what + ", zeros behind slot " + slot, x.same(slot, Check.SPARE));
        }
    }

    private static void callsOfSlots() {
        Check.says("Terms", "A call that throws changes nothing, but as said.");
        Check.Making fill = Check::fill;
        changes("feed", fill, x -> x.feed(1, 2, 3, 4, 5), TAPE);
        changes("end", fill, x -> x.end(5, 7), 5, TAPE);
        changes("copy", fill, x -> x.copy(5, 2), 2);
        changes("copy onto itself", fill, x -> x.copy(5, 5));
        changes("resize up", fill, x -> x.resize(5, 100), 5);
        changes("resize down", fill, x -> x.resize(5, 10), 5);
        changes("alter", fill, x -> x.alter(5, 3, 1), 5);
        changes("length", fill, x -> x.length(5));
        changes("word", fill, x -> x.word(5, 3));
        changes("same", fill, x -> x.same(5, 3));
        for (int kind = 1; kind <= 16; kind++) {
            int it = kind;
            changes("digest(" + kind + ")", fill, x -> x.digest(it, 90), Check.SHARED);
            leavesNoRest("digest(" + kind + ")", x -> x.resize(Check.MESSAGE, 5), x -> x.digest(it, 90), Check.SHARED);
        }
        for (int slot = 0; slot < 7; slot++) {
            int it = slot;
            leavesNoRest("end", x -> x.feed(1, 2, 3, 4, 5), x -> x.end(it, 11), slot);
            leavesNoRest("copy", x -> Check.put(x, (it + 1) % 7, Check.some(1, 9)), x -> x.copy((it + 1) % 7, it), slot);
            leavesNoRest("resize", x -> { }, x -> x.resize(it, 13), slot);
        }
    }

    private static void both(String what, Check.Making making, Check.Making call, int... slots) {
        changes(what, x -> {
            Check.fill(x);
            making.make(x);
        }, call, slots);
        leavesNoRest(what, making, call, slots);
    }

    private static void kem(int set) {
        Check.says("Promise 21", "P, D and the ciphertext or signature of a call are PUBLIC, SECRET and PACKET;"
                + " d | z, m of WRAP, x of the DSA KEYS, O | prf | Q are RANDOM");
        Check.Making keys = x -> {
            x.resize(Check.RANDOM, 64);
            x.kemKeys(set);
            x.resize(Check.RANDOM, 32);
        };
        Check.Making packet = x -> {
            keys.make(x);
            x.kemWrap(set);
            Check.put(x, Check.SHARED, Check.some(1, 32));
        };
        both("kemKeys", x -> x.resize(Check.RANDOM, 64), x -> x.kemKeys(set), Check.PUBLIC, Check.SECRET);
        both("kemWrap", keys, x -> x.kemWrap(set), Check.PACKET, Check.SHARED);
        both("kemOpen", packet, x -> x.kemOpen(set), Check.SHARED);
        both("kemOpen of another packet", x -> {
            packet.make(x);
            x.alter(Check.PACKET, 9, 1);
        }, x -> x.kemOpen(set), Check.SHARED);
    }

    private static void dsa(int set) {
        Check.says("Promise 21", "x of SIGN and VERIFY is SIGNED x.");
        Check.Making keys = x -> {
            x.resize(Check.RANDOM, 32);
            x.dsaKeys(set);
            x.resize(Check.MESSAGE, 50);
            x.resize(Check.CONTEXT, 10);
        };
        Check.Making packet = x -> {
            keys.make(x);
            x.dsaSign(set, 4);
            Check.put(x, Check.SHARED, Check.some(1, 32));
        };
        both("dsaKeys", x -> x.resize(Check.RANDOM, 32), x -> x.dsaKeys(set), Check.PUBLIC, Check.SECRET);
        both("dsaSign", keys, x -> x.dsaSign(set, 4), Check.PACKET);
        both("dsaVerify", packet, x -> x.dsaVerify(set, 4), Check.SHARED);
        both("dsaVerify of another how", packet, x -> x.dsaVerify(set, 5), Check.SHARED);
        both("dsaVerify of another length", x -> {
            packet.make(x);
            x.resize(Check.PACKET, 9);
        }, x -> x.dsaVerify(set, 4));
    }

    private static void slh(int set) {
        Check.says("Promise 21", "O | prf | Q are RANDOM; x of SIGN and VERIFY is SIGNED x.");
        int n = new PlainSlh(set).n;
        Check.Making keys = x -> {
            x.resize(Check.RANDOM, 3 * n);
            x.slhKeys(set);
            x.resize(Check.RANDOM, 0);
            x.resize(Check.MESSAGE, 50);
            x.resize(Check.CONTEXT, 10);
        };
        Check.Making packet = x -> {
            keys.make(x);
            x.slhSign(set, 4);
            Check.put(x, Check.SHARED, Check.some(1, n));
        };
        both("slhKeys", x -> x.resize(Check.RANDOM, 3 * n), x -> x.slhKeys(set), Check.PUBLIC, Check.SECRET);
        both("slhSign", keys, x -> x.slhSign(set, 4), Check.PACKET);
        both("slhVerify", packet, x -> x.slhVerify(set, 4), Check.SHARED);
        both("slhVerify of another how", packet, x -> x.slhVerify(set, 5), Check.SHARED);
        both("slhVerify of another length", x -> {
            packet.make(x);
            x.resize(Check.PACKET, 9);
        }, x -> x.slhVerify(set, 4));
        both("slhNode", keys, x -> x.slhNode(set, 0, 1, 0, 0), Check.SHARED);
    }

    /** What a call does comes of the slots alone, whatever the calls before it were. */
    private static void callsOneAfterAnother() {
        Check.says("Terms", "All memory is the suite's own.");
        Check.Making[] calls = calls();
        for (int second = 0; second < calls.length; second++) {
            LatticeSuite alone = new LatticeSuite();
            calls[second].make(alone);
            String want = Check.picture(alone);
            for (int first = 0; first < calls.length; first++) {
                LatticeSuite x = new LatticeSuite();
                calls[first].make(x);
                for (int slot = 0; slot < 8; slot++) {
                    x.resize(slot, 0);
                }
                x.end(0, 0);
                calls[second].make(x);
                Check.due("call " + second + " behind call " + first, Check.picture(x), want);
            }
        }
    }

    /** 36 times the same 14 calls, and eight more, on one object: all answers are those of the first time. */
    private static void asManyCallsAsThereMayBe() {
        Check.says("What it is", "An object is used for at most 512 calls after it has been made");
        LatticeSuite x = new LatticeSuite();
        String first = "";
        for (int calls = 0; calls + 14 <= 512; calls += 14) {
            String got = fourteen(x);
            first = calls == 0 ? got : first;
            Check.due("calls " + calls + " and on", got, first);
        }
        Check.put(x, Check.MESSAGE, Check.some(1, 40));
        Check.due("call 508", x.digest(8, 0), 32);
        byte[] want = Plain.hash(8, Check.some(1, 40));
        for (int i = 0; i < 32; i += 8) {
            Check.bytes("call " + (509 + i / 8), Plain.be(x.word(Check.SHARED, i), 8), Plain.part(want, i, 8));
        }
    }

    private static String fourteen(LatticeSuite x) {
        StringBuilder all = new StringBuilder();
        x.resize(Check.RANDOM, 0);
        x.resize(Check.RANDOM, 64);
        all.append(x.kemKeys(0)).append(' ').append(x.resize(Check.RANDOM, 32)).append(' ').append(x.kemWrap(0));
        all.append(' ').append(x.kemOpen(0)).append(' ').append(x.word(Check.SHARED, 24)).append(' ');
        all.append(x.dsaKeys(0)).append(' ').append(x.dsaSign(0, 1)).append(' ').append(x.dsaVerify(0, 1));
        all.append(' ').append(x.word(Check.SHARED, 0)).append(' ').append(x.feed(1, 2, 3, 4, 5)).append(' ');
        return all.append(x.end(Check.SPARE, 20)).append(' ').append(x.same(Check.SPARE, Check.SHARED)).toString();
    }

    /** Calls that use as much of what is inside an object as can be, each with its slots. */
    private static Check.Making[] calls() {
        byte[] great = DsaSignTest.greatSecret();
        return new Check.Making[] {
            x -> digestOf(x, 13, 200), x -> digestOf(x, 14, 129), x -> digestOf(x, 2, 5), x -> digestOf(x, 4, 120),
            x -> digestOf(x, 10, 300), x -> digestOf(x, 11, 700), x -> digestOf(x, 15, 90), x -> digestOf(x, 16, 77),
            OrderTest::kemOfAll, OrderTest::dsaOfAll, x -> {
                x.resize(Check.RANDOM, 32);
                x.dsaKeys(1);
            }, x -> {
                Check.put(x, Check.SECRET, great);
                Check.put(x, Check.MESSAGE, DsaSignTest.messageInVain());
                Check.fails("a signature in vain", Check.ARITHMETIC, () -> x.dsaSign(0, -1));
            }, OrderTest::slhOfAll, x -> slhOfAny(x, 3, 35664, 24), x -> slhOfAny(x, 11, 49856, 32), x -> {
                Check.put(x, Check.SECRET, Check.some(5, 128));
                x.slhNode(5, 16, 77, 1, 3);
            },
        };
    }

    private static void digestOf(LatticeSuite x, int kind, int n) {
        Check.put(x, Check.RANDOM, Check.some(kind, n));
        Check.put(x, Check.MESSAGE, Check.some(n, n));
        x.digest(kind, n);
    }

    private static void kemOfAll(LatticeSuite x) {
        for (int set = 2; set >= 0; set--) {
            x.resize(Check.RANDOM, 64);
            x.kemKeys(set);
            x.resize(Check.RANDOM, 32);
            x.kemWrap(set);
            x.alter(Check.PACKET, 5, set);
            x.kemOpen(set);
        }
    }

    private static void dsaOfAll(LatticeSuite x) {
        x.resize(Check.RANDOM, 32);
        for (int set = 2; set >= 0; set--) {
            x.dsaKeys(set);
            x.dsaSign(set, 1 + set);
            x.dsaVerify(set, 1 + set);
        }
    }

    private static void slhOfAll(LatticeSuite x) {
        x.resize(Check.RANDOM, 48);
        x.slhKeys(7);
        x.resize(Check.RANDOM, 0);
        x.slhSign(7, 12);
        x.slhVerify(7, 12);
    }

    private static void slhOfAny(LatticeSuite x, int set, int size, int n) {
        Check.putMany(x, Check.PACKET, 4, size);
        Check.put(x, Check.PUBLIC, Check.some(6, 2 * n));
        x.slhVerify(set, 2);
    }
}
