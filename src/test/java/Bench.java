import java.util.ArrayList;
import java.util.List;
import java.util.Map;
import java.util.TreeMap;
import java.util.function.Supplier;
import java.util.function.ToIntFunction;

/**
 * What the boundary tests share: tests named by a sentence, answers that are due, objects that have
 * come to a certain point, and roots and prints as the document words them.
 */
abstract class Bench {
    // Written out here, not read from the program: a wrong constant must not agree with itself.
    static final int WRONG = -1;
    static final int STATE = -2;
    static final int UNKNOWN = -3;
    static final int GONE = -4;
    static final int PROOF = -5;
    static final int FORGED = -6;
    static final int POOR = -7;
    static final int DONE = -8;
    static final int LATE = -9;

    static final int NONE = 0;
    static final int INIT = 1;
    static final int TRY = 2;
    static final int OPEN = 3;
    static final int CLOSED = 4;

    static final int ALL = 15;
    static final int ACK = 0;
    static final int CONFIRM = 1;
    static final int CLOSE_TOO = 2;
    static final boolean[] ORDERS = {false, true};

    /** For packets as many as an end can send, all of them for user 1. */
    static final int[] TWELVE = {1, 1, 1, 1, 1, 1, 1, 1, 1, 1, 1, 1};

    private static final Document DOCUMENT = Document.read();
    private static String chapter = "";
    private static String sentence = "";
    private static int tests = 0;
    private static int faults = 0;

    /** The tests that follow are of this chapter of the document. */
    static void chapter(String heading) {
        chapter = heading;
    }

    /** A test of one sentence of the chapter; it is named by the sentence's own words. */
    static void sentence(String words, Runnable test) {
        sentence = words;
        tests++;
        if (DOCUMENT != null && !DOCUMENT.name(chapter, words)) {
            fault("the document has no such sentence there");
        }
        test.run();
    }

    private static void fault(String what) {
        faults++;
        System.out.println(chapter + ": " + sentence + " .. " + what);
    }

    static void due(String what, int got, int want) {
        if (got != want) {
            fault(what + " answered " + got + ", due is " + want);
        }
    }

    static void due(String what, boolean got, boolean want) {
        due(what, got ? 1 : 0, want ? 1 : 0);
    }

    /** No sentence of the terms and the promises may be left without a test. */
    static void dueAllSentences() {
        sentence = "every sentence has a test";
        if (DOCUMENT == null) {
            System.out.println("the document is not here: its sentences were not looked up");
            return;
        }
        for (String piece : DOCUMENT.unnamed()) {
            fault("none is named by \"" + piece + "\"");
        }
        System.out.println(tests + " sentences tested");
    }

    /** Ends the run, with 1 if an answer was not the one that is due. */
    static void finish() {
        System.out.println(faults == 0 ? "all answers are as due" : faults + " faults");
        if (faults != 0) {
            System.exit(1);
        }
    }

    /**
     * The call is refused, and an object on which it was made is afterwards as its twin on which it
     * was not made.
     */
    static void refused(String what, Supplier<TwinLedgers> scene, ToIntFunction<TwinLedgers> call,
            int want) {
        TwinLedgers x = scene.get();
        due(what, call.applyAsInt(x), want);
        if (!view(x).equals(view(scene.get()))) {
            fault(what + " was refused, but changed something");
        }
    }

    /** All that can be seen of an object, its stores too by the roots of a new block. */
    static List<Integer> view(TwinLedgers x) {
        List<Integer> seen = new ArrayList<>();
        for (int l = 0; l < 2; l++) {
            int h = x.tick(l);
            seen.add(h);
            seen.add(x.root(l, h));
            for (int k = 1; k <= 16; k++) {
                seen.add(x.knows(l, k) ? 1 : 0);
            }
            for (int k = 1; k <= 5; k++) {
                seen.add(x.voucher(l, k));
            }
            for (int c = 0; c < 3; c++) {
                viewEnd(x, l, c, seen);
            }
            for (int i = 0; i < 4 * 6; i++) {
                seen.add(x.balance(l, i / 6, i % 6));
            }
        }
        return seen;
    }

    private static void viewEnd(TwinLedgers x, int l, int c, List<Integer> seen) {
        for (int what = 0; what < 5; what++) {
            seen.add(x.end(l, c, what));
        }
        int sent = x.end(l, c, 2);
        for (int s = 1; s <= sent; s++) {
            seen.add(x.packet(l, c, s));
            seen.add(x.limit(l, c, s));
        }
        for (int kind = 0; kind < 6; kind++) {
            seen.add(x.escrow(l, c, kind));
        }
    }

    static int who(int from, int to) {
        return 4 * from + to;
    }

    /** Opens channel c by three rounds; ledger 0 begins. */
    static void openChannel(TwinLedgers x, int c, boolean ordered) {
        due("init for a channel", x.init(0, c, ordered), 0);
        x.round();
        due("attempt for a channel", x.attempt(1, c, ordered, x.height(0)), 0);
        x.round();
        due("ack for a channel", x.open(0, c, ACK, x.height(1)), 0);
        x.round();
        due("confirm for a channel", x.open(1, c, CONFIRM, x.height(0)), 0);
    }

    /** Channel 0 is open, and both ledgers are at height 3 and know it of each other. */
    static TwinLedgers opened(int patience, boolean ordered) {
        TwinLedgers x = new TwinLedgers(patience);
        openChannel(x, 0, ordered);
        return x;
    }

    /** All three channels are open, none ordered, and both ledgers are at height 9. */
    static TwinLedgers openedAll(int patience) {
        TwinLedgers x = opened(patience, false);
        openChannel(x, 1, false);
        openChannel(x, 2, false);
        return x;
    }

    /**
     * Ledger 0 has sent 10, 20, 30 .. by the open channel 0, from its user 0 to each of these users
     * of ledger 1, which knows the block after that, of height 4.
     */
    static TwinLedgers sent(int patience, boolean ordered, int... users) {
        TwinLedgers x = opened(patience, ordered);
        for (int i = 0; i < users.length; i++) {
            due("a packet", x.send(0, 0, who(0, users[i]), 0, 10 * (i + 1)), i + 1);
        }
        publish(x, 0);
        return x;
    }

    /**
     * Ledger 1 has all five vouchers: 1, 2 and 3 for kind 0 by the channels 0, 1 and 2, of each of
     * which its user 0 has 100; 4 for kind 2 by channel 0 and 5 for kind 3 by channel 1, of each of
     * which its user 1 has 40. Ledger 0 has vouchers 1, 2 and 3, the same way; heights are 11.
     */
    static TwinLedgers withFiveVouchers() {
        TwinLedgers x = openedAll(16);
        for (int c = 0; c < 3; c++) {
            x.send(0, c, who(0, 0), 0, 100);
            x.send(1, c, who(0, 0), 0, 100);
        }
        due("six packets for vouchers", x.round(), 6);
        x.send(0, 0, who(0, 1), 2, 40);
        x.send(0, 1, who(0, 1), 3, 40);
        due("two received, six acknowledged", x.round(), 8);
        return x;
    }

    /** A block of ledger l, and its header to the other one's client; answers the height. */
    static int publish(TwinLedgers x, int l) {
        int h = x.tick(l);
        due("publish", x.update(1 - l, h, ALL, false), 0);
        return h;
    }

    static void tick(TwinLedgers x, int l, int times) {
        for (int i = 0; i < times; i++) {
            x.tick(l);
        }
    }

    /** By longs, so that the wrapping and the shift without sign are not Java's own of ints. */
    static int mix(int h, int x) {
        long g = ((h ^ x) & 0xffffffffL) * 73244475L % 0x100000000L;
        return (int) (g ^ g / 32768);
    }

    static int print(int kind, int amount, int who, int limit, int back) {
        return mix(mix(mix(mix(mix(3, kind), amount), who), limit), back);
    }

    /** A store of keys and values that are given by turns. */
    static TreeMap<Integer, Integer> storeOf(int... pairs) {
        TreeMap<Integer, Integer> store = new TreeMap<>();
        for (int i = 0; i < pairs.length; i += 2) {
            store.put(pairs[i], pairs[i + 1]);
        }
        return store;
    }

    static int rootOf(int... pairs) {
        return rootOf(storeOf(pairs));
    }

    static int rootOf(TreeMap<Integer, Integer> store) {
        return rootOf(new ArrayList<>(store.entrySet()));
    }

    private static int rootOf(List<Map.Entry<Integer, Integer>> keys) {
        int n = keys.size();
        if (n == 0) {
            return 0;
        }
        if (n == 1) {
            return mix(mix(1, keys.get(0).getKey()), keys.get(0).getValue());
        }
        int m = 1;
        while (2 * m < n) {
            m *= 2;
        }
        return mix(mix(2, rootOf(keys.subList(0, m))), rootOf(keys.subList(m, n)));
    }

    /** Makes a block of ledger l: its root is that of these keys and values. */
    static void dueStore(String what, TwinLedgers x, int l, int... pairs) {
        due("root, " + what, x.root(l, x.tick(l)), rootOf(pairs));
    }
}
