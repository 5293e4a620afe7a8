import java.util.ArrayList;
import java.util.List;
import java.util.Map;
import java.util.Random;
import java.util.Set;
import java.util.TreeMap;
import java.util.TreeSet;

/**
 * Long runs of chosen-by-seed calls, answered by the program and by a plain model that keeps every
 * state as a map and reads like the document. It also looks that every answer was met.
 */
public final class ModelTest {
    private static final int RUNS = 1500;
    private static final int CALLS = 512;
    private static final int SWEEP_CALLS = 112;

    private final TwinLedgers program;
    private final Model model;
    private final Random random;
    private final List<String> calls = new ArrayList<>();
    private static final Map<String, Set<Integer>> MET = new TreeMap<>();
    private static int wrong = 0;

    private ModelTest(long seed) {
        random = new Random(seed);
        int patience = random.nextInt(19) - 1;
        program = new TwinLedgers(patience);
        model = new Model(patience);
        calls.add("new TwinLedgers(" + patience + ")");
    }

    public static void main(String[] args) {
        for (int seed = 1; seed <= RUNS && wrong == 0; seed++) {
            new ModelTest(seed).run(seed);
        }
        if (wrong == 0) {
            checkMet();
        }
        System.out.println(wrong == 0 ? "program and model agree" : wrong + " faults");
        if (wrong != 0) {
            System.exit(1);
        }
    }

    private void run(int seed) {
        if (seed % 5 != 0) {
            openSomeChannels();
        }
        boolean good = true;
        while (good && calls.size() <= CALLS - SWEEP_CALLS) {
            good = anyCall();
        }
        if (good) {
            good = sweep();
        }
        if (model.sixthRefused) {
            MET.computeIfAbsent("not taken for want of a number", key -> new TreeSet<>()).add(2);
        }
        if (!good) {
            wrong++;
            for (String call : calls) {
                System.out.println(call);
            }
        }
        if (calls.size() > CALLS + 1) {
            wrong++;
            System.out.println("the test makes " + calls.size() + " calls on one object");
        }
    }

    private boolean same(String name, String call, int got, int want) {
        calls.add(call + " answered " + got + ", due is " + want);
        MET.computeIfAbsent(name, key -> new TreeSet<>()).add(want);
        return got == want;
    }

    private void openSomeChannels() {
        for (int c = 0; c < 3; c++) {
            if (random.nextInt(5) == 0) {
                continue;
            }
            boolean ordered = random.nextInt(3) == 0;
            int first = random.nextInt(2);
            init(first, c, ordered);
            round();
            attempt(1 - first, c, ordered, model.height[first]);
            round();
            open(first, c, 0, model.height[1 - first]);
            round();
            open(1 - first, c, 1, model.height[first]);
        }
    }

    private int ledger() {
        return random.nextInt(60) == 0 ? random.nextInt(7) - 3 : random.nextInt(2);
    }

    private int channel() {
        return random.nextInt(60) == 0 ? random.nextInt(9) - 3 : random.nextInt(3);
    }

    /** A height of the ledger that l hears of: mostly a new one. */
    private int heightFor(int l) {
        int top = l == 0 || l == 1 ? model.height[1 - l] : 5;
        switch (random.nextInt(8)) {
            case 0:
                return random.nextInt(top + 4) - 1;
            case 1:
            case 2:
                return top - random.nextInt(10);
            default:
                return top;
        }
    }

    /** A packet's number at an end: mostly one that is there. */
    private int number(int l, int c) {
        int sent = model.isEnd(l, c) ? model.packets(l, c).size() : 0;
        if (sent == 0 || random.nextInt(20) == 0) {
            return random.nextInt(16) - 1;
        }
        return random.nextInt(3) == 0 ? sent : 1 + random.nextInt(sent);
    }

    private boolean anyCall() {
        int l = ledger();
        int c = channel();
        int h = heightFor(l);
        switch (random.nextInt(24)) {
            case 0:
            case 1:
                return tick(l);
            case 2:
            case 3:
                return update(l, h, random.nextInt(4) == 0 ? random.nextInt() : 15,
                        random.nextInt(12) == 0);
            case 4:
                return init(l, c, random.nextInt(3) == 0);
            case 5:
                return attempt(l, c, random.nextInt(3) == 0, h);
            case 6:
                return open(l, c, random.nextInt(12) == 0 ? random.nextInt(7) - 2 : random.nextInt(2), h);
            case 7:
                return random.nextInt(8) == 0 ? close(l, c)
                        : random.nextInt(4) == 0 ? open(l, c, 2, h) : look(l, c);
            case 8:
            case 9:
            case 10:
            case 11:
                return anySend(l, c);
            case 12:
            case 13:
            case 14:
                return receive(l, c, number(1 - l, c), h, random.nextInt(9) == 0);
            case 15:
            case 16:
            case 17:
                return acknowledge(l, c, number(l, c), h);
            case 18:
            case 19:
                return timeout(l, c, number(l, c), h, random.nextInt(3) == 0);
            case 20:
                return random.nextInt(3) == 0 ? round() : look(l, c);
            default:
                return look(l, c);
        }
    }

    private boolean anySend(int l, int c) {
        int kind = l == 0 || l == 1 ? random.nextInt(model.vouchers.get(l).size() + 1) : 0;
        if (random.nextInt(25) == 0) {
            kind = random.nextInt(9) - 1;
        }
        int who = random.nextInt(25) == 0 ? random.nextInt(24) - 4 : random.nextInt(16);
        int amount = random.nextInt(25) == 0 ? random.nextInt(1200) - 50 : 1 + random.nextInt(120);
        return send(l, c, who, kind, amount);
    }

    private boolean look(int l, int c) {
        switch (random.nextInt(9)) {
            case 0:
                return lookHeight(l);
            case 1:
                return lookRoot(l, heightFor(1 - l));
            case 2:
                return lookKnows(l, heightFor(l));
            case 3:
                return lookEnd(l, c, random.nextInt(7) - 1);
            case 4:
                return lookPacket(l, c, number(l, c));
            case 5:
                return lookLimit(l, c, number(l, c));
            case 6:
                return lookBalance(l, random.nextInt(6) - 1, random.nextInt(8) - 1);
            case 7:
                return lookEscrow(l, c, random.nextInt(8) - 1);
            default:
                return lookVoucher(l, random.nextInt(8) - 1);
        }
    }

    /** Looks at the whole of an object: its roots, ends, tokens and a part of its packets. */
    private boolean sweep() {
        boolean good = true;
        for (int l = 0; l < 2 && good; l++) {
            good = lookHeight(l) && lookRoot(l, model.height[l]) && lookRoot(l, model.height[l] - 7)
                    && lookRoot(l, model.height[l] - 8);
            for (int u = 0; u < 4 && good; u++) {
                good = lookBalance(l, u, 0) && lookBalance(l, u, 1 + u);
            }
            for (int c = 0; c < 3 && good; c++) {
                good = lookEscrow(l, c, 0) && lookEscrow(l, c, 1) && lookEscrow(l, c, 2);
                for (int what = 0; what < 5 && good; what++) {
                    good = lookEnd(l, c, what);
                }
                for (int s = 1; s < 4 && good; s++) {
                    good = lookPacket(l, c, number(l, c));
                }
            }
            for (int k = 1; k <= 5 && good; k++) {
                good = lookVoucher(l, k);
            }
        }
        return good;
    }

    private static void checkMet() {
        Map<String, int[]> due = new TreeMap<>();
        due.put("tick", new int[] {-1});
        due.put("update", new int[] {0, -1, -6});
        due.put("init", new int[] {0, -1, -2});
        due.put("attempt", new int[] {0, -1, -2, -3, -4, -5});
        due.put("open", new int[] {0, -1, -2, -3, -4, -5});
        due.put("close", new int[] {0, -1, -2});
        due.put("send", new int[] {1, 12, -1, -2, -7});
        due.put("receive", new int[] {1, 2, -1, -2, -3, -4, -5, -8, -9});
        due.put("acknowledge", new int[] {1, 2, -1, -2, -3, -4, -5, -8});
        due.put("timeout", new int[] {0, -1, -3, -4, -5, -8, -9});
        due.put("timeout for close", new int[] {0, -1, -3, -4, -5, -8});
        due.put("round", new int[] {0, 1, 2, 3, 4});
        due.put("height", new int[] {-1});
        due.put("root", new int[] {0});
        due.put("knows", new int[] {0, 1});
        due.put("end", new int[] {-1, 0, 1, 2, 3, 4, 12, 13});
        due.put("packet", new int[] {-1, 0, 1, 2, 3});
        due.put("limit", new int[] {-1});
        due.put("balance", new int[] {0, 1000});
        due.put("escrow", new int[] {0});
        due.put("voucher", new int[] {-1, 0, 1, 2, 4, 5, 6});
        due.put("not taken for want of a number", new int[] {2});
        for (Map.Entry<String, int[]> entry : due.entrySet()) {
            for (int answer : entry.getValue()) {
                Set<Integer> seen = MET.get(entry.getKey());
                if (seen == null || !seen.contains(answer)) {
                    wrong++;
                    System.out.println("no run met " + entry.getKey() + " with " + answer);
                }
            }
        }
    }

    private boolean tick(int l) {
        return same("tick", "tick(" + l + ")", program.tick(l), model.tick(l));
    }

    private boolean update(int l, int h, int set, boolean lie) {
        return same("update", "update(" + l + ", " + h + ", " + set + ", " + lie + ")",
                program.update(l, h, set, lie), model.update(l, h, set, lie));
    }

    private boolean init(int l, int c, boolean ordered) {
        return same("init", "init(" + l + ", " + c + ", " + ordered + ")",
                program.init(l, c, ordered), model.init(l, c, ordered));
    }

    private boolean attempt(int l, int c, boolean ordered, int h) {
        return same("attempt", "attempt(" + l + ", " + c + ", " + ordered + ", " + h + ")",
                program.attempt(l, c, ordered, h), model.attempt(l, c, ordered, h));
    }

    private boolean open(int l, int c, int step, int h) {
        return same("open", "open(" + l + ", " + c + ", " + step + ", " + h + ")",
                program.open(l, c, step, h), model.open(l, c, step, h));
    }

    private boolean close(int l, int c) {
        return same("close", "close(" + l + ", " + c + ")", program.close(l, c), model.close(l, c));
    }

    private boolean send(int l, int c, int who, int kind, int amount) {
        return same("send", "send(" + l + ", " + c + ", " + who + ", " + kind + ", " + amount + ")",
                program.send(l, c, who, kind, amount), model.send(l, c, who, kind, amount));
    }

    private boolean receive(int l, int c, int s, int h, boolean lie) {
        return same("receive",
                "receive(" + l + ", " + c + ", " + s + ", " + h + ", " + lie + ")",
                program.receive(l, c, s, h, lie), model.receive(l, c, s, h, lie));
    }

    private boolean acknowledge(int l, int c, int s, int h) {
        return same("acknowledge", "acknowledge(" + l + ", " + c + ", " + s + ", " + h + ")",
                program.acknowledge(l, c, s, h), model.acknowledge(l, c, s, h));
    }

    private boolean timeout(int l, int c, int s, int h, boolean forClose) {
        return same(forClose ? "timeout for close" : "timeout",
                "timeout(" + l + ", " + c + ", " + s + ", " + h + ", " + forClose + ")",
                program.timeout(l, c, s, h, forClose), model.timeout(l, c, s, h, forClose));
    }

    private boolean round() {
        return same("round", "round()", program.round(), model.round());
    }

    private boolean lookHeight(int l) {
        return same("height", "height(" + l + ")", program.height(l),
                model.isLedger(l) ? model.height[l] : -1);
    }

    private boolean lookRoot(int l, int h) {
        return same("root", "root(" + l + ", " + h + ")", program.root(l, h), model.root(l, h));
    }

    private boolean lookKnows(int l, int h) {
        return same("knows", "knows(" + l + ", " + h + ")", program.knows(l, h) ? 1 : 0,
                model.isLedger(l) && model.known.get(l).contains(h) ? 1 : 0);
    }

    private boolean lookEnd(int l, int c, int what) {
        return same("end", "end(" + l + ", " + c + ", " + what + ")", program.end(l, c, what),
                model.end(l, c, what));
    }

    private boolean lookPacket(int l, int c, int s) {
        return same("packet", "packet(" + l + ", " + c + ", " + s + ")", program.packet(l, c, s),
                model.isPacket(l, c, s) ? model.packets(l, c).get(s - 1).fate : -1);
    }

    private boolean lookLimit(int l, int c, int s) {
        return same("limit", "limit(" + l + ", " + c + ", " + s + ")", program.limit(l, c, s),
                model.isPacket(l, c, s) ? model.packets(l, c).get(s - 1).limit : -1);
    }

    private boolean lookBalance(int l, int u, int kind) {
        return same("balance", "balance(" + l + ", " + u + ", " + kind + ")",
                program.balance(l, u, kind), model.amount("user " + l + " " + u + " " + kind));
    }

    private boolean lookEscrow(int l, int c, int kind) {
        return same("escrow", "escrow(" + l + ", " + c + ", " + kind + ")",
                program.escrow(l, c, kind), model.amount("escrow " + l + " " + c + " " + kind));
    }

    private boolean lookVoucher(int l, int k) {
        return same("voucher", "voucher(" + l + ", " + k + ")", program.voucher(l, k),
                model.isLedger(l) && k >= 1 && k <= model.vouchers.get(l).size()
                        ? model.vouchers.get(l).get(k - 1) : -1);
    }

    private static final class Sent {
        int kind;
        int amount;
        int from;
        int to;
        int limit;
        int back;
        int fate;

        int print(boolean lie) {
            int[] parts = {kind, lie ? amount + 1 : amount, 4 * from + to, limit, back};
            int print = 3;
            for (int part : parts) {
                print = Model.mix(print, part);
            }
            return print;
        }
    }

    /** The document in maps and lists; every state that ever was is kept. */
    private static final class Model {
        final int patience;
        final int[] height = new int[2];
        final List<TreeMap<Integer, Integer>> store = new ArrayList<>();
        final List<Map<Integer, TreeMap<Integer, Integer>>> states = new ArrayList<>();
        final List<TreeSet<Integer>> known = new ArrayList<>();
        final List<List<Integer>> vouchers = new ArrayList<>();
        final Map<String, Integer> amounts = new TreeMap<>();
        final Map<Integer, List<Sent>> sent = new TreeMap<>();
        final Map<Integer, Integer> acknowledged = new TreeMap<>();
        boolean sixthRefused;

        Model(int patience) {
            this.patience = patience < 1 || patience > 16 ? 4 : patience;
            for (int l = 0; l < 2; l++) {
                store.add(new TreeMap<>());
                states.add(new TreeMap<>());
                known.add(new TreeSet<>());
                vouchers.add(new ArrayList<>());
                for (int u = 0; u < 4; u++) {
                    add("user " + l + " " + u + " 0", 1000);
                }
                for (int c = 0; c < 3; c++) {
                    sent.put(3 * l + c, new ArrayList<>());
                    acknowledged.put(3 * l + c, 0);
                }
            }
        }

        static int mix(int h, int x) {
            int g = (h ^ x) * 73244475;
            return g ^ (g >>> 15);
        }

        boolean isLedger(int l) {
            return l == 0 || l == 1;
        }

        boolean isEnd(int l, int c) {
            return isLedger(l) && (c == 0 || c == 1 || c == 2);
        }

        boolean isPacket(int l, int c, int s) {
            return isEnd(l, c) && s > 0 && s <= packets(l, c).size();
        }

        List<Sent> packets(int l, int c) {
            return sent.get(3 * l + c);
        }

        int amount(String whose) {
            return amounts.getOrDefault(whose, 0);
        }

        void add(String whose, int amount) {
            amounts.merge(whose, amount, Integer::sum);
            if (amount(whose) < 0) {
                throw new IllegalStateException("below 0: " + whose);
            }
        }

        int state(int l, int c) {
            return store.get(l).getOrDefault(4096 + c, 0) >> 1;
        }

        int order(int l, int c) {
            return store.get(l).getOrDefault(4096 + c, 0) & 1;
        }

        void set(int l, int c, int state, int order) {
            store.get(l).put(4096 + c, 2 * state + order);
            if (order == 1) {
                store.get(l).putIfAbsent(8192 + c, 1);
            }
        }

        /** How the proof by ledger l of the other one's key fails; value null: it is not there. */
        int proof(int l, int h, int key, Integer value) {
            if (!known.get(l).contains(h)) {
                return -3;
            }
            if (h + 8 <= height[1 - l]) {
                return -4;
            }
            Integer found = states.get(1 - l).get(h).get(key);
            boolean holds = value == null ? found == null : value.equals(found);
            return holds ? 0 : -5;
        }

        int tick(int l) {
            if (!isLedger(l)) {
                return -1;
            }
            height[l]++;
            states.get(l).put(height[l], new TreeMap<>(store.get(l)));
            return height[l];
        }

        int update(int l, int h, int set, boolean lie) {
            if (!isLedger(l) || !states.get(1 - l).containsKey(h)) {
                return -1;
            }
            int signers = (set & 1) + (set >> 1 & 1) + (set >> 2 & 1) + (set >> 3 & 1);
            if (lie || signers < 3) {
                return -6;
            }
            known.get(l).add(h);
            return 0;
        }

        int init(int l, int c, boolean ordered) {
            if (!isEnd(l, c)) {
                return -1;
            }
            if (state(l, c) != 0) {
                return -2;
            }
            set(l, c, 1, ordered ? 1 : 0);
            return 0;
        }

        int attempt(int l, int c, boolean ordered, int h) {
            int order = ordered ? 1 : 0;
            if (!isEnd(l, c)) {
                return -1;
            }
            if (state(l, c) > 1 || state(l, c) == 1 && order(l, c) != order) {
                return -2;
            }
            int proof = proof(l, h, 4096 + c, 2 + order);
            if (proof == 0) {
                set(l, c, 2, order);
            }
            return proof;
        }

        int open(int l, int c, int step, int h) {
            if (!isEnd(l, c) || step < 0 || step > 2) {
                return -1;
            }
            int from = step + 1;
            int theirs = step + 2;
            if (state(l, c) != from) {
                return -2;
            }
            int proof = proof(l, h, 4096 + c, 2 * theirs + order(l, c));
            if (proof == 0) {
                set(l, c, step == 2 ? 4 : 3, order(l, c));
            }
            return proof;
        }

        int close(int l, int c) {
            if (!isEnd(l, c)) {
                return -1;
            }
            if (state(l, c) != 3) {
                return -2;
            }
            set(l, c, 4, order(l, c));
            return 0;
        }

        int send(int l, int c, int who, int kind, int amount) {
            if (!isEnd(l, c) || who < 0 || who > 15 || amount < 1 || amount > 1000) {
                return -1;
            }
            if (kind < 0 || kind > vouchers.get(l).size()) {
                return -1;
            }
            if (state(l, c) != 3) {
                return -2;
            }
            String user = "user " + l + " " + who / 4 + " " + kind;
            if (amount(user) < amount || packets(l, c).size() == 12) {
                return -7;
            }
            Sent packet = new Sent();
            packet.kind = kind;
            packet.amount = amount;
            packet.from = who / 4;
            packet.to = who % 4;
            packet.limit = (known.get(l).isEmpty() ? 0 : known.get(l).last()) + patience;
            if (kind > 0 && vouchers.get(l).get(kind - 1) % 4 == c) {
                packet.back = 1 + vouchers.get(l).get(kind - 1) / 4;
            }
            add(user, -amount);
            if (packet.back == 0) {
                add("escrow " + l + " " + c + " " + kind, amount);
            }
            packets(l, c).add(packet);
            int s = packets(l, c).size();
            store.get(l).put(12288 + 64 * c + s, packet.print(false));
            return s;
        }

        int receive(int l, int c, int s, int h, boolean lie) {
            if (!isEnd(l, c) || !isPacket(1 - l, c, s)) {
                return -1;
            }
            if (state(l, c) != 3) {
                return -2;
            }
            Sent packet = packets(1 - l, c).get(s - 1);
            if (height[l] >= packet.limit) {
                return -9;
            }
            boolean ordered = order(l, c) == 1;
            if (ordered ? store.get(l).get(8192 + c) != s
                    : store.get(l).containsKey(16384 + 64 * c + s)) {
                return -8;
            }
            int proof = proof(l, h, 12288 + 64 * c + s, packet.print(lie));
            if (proof != 0) {
                return proof;
            }
            int answer = deliver(l, c, packet) ? 1 : 2;
            store.get(l).put(ordered ? 8192 + c : 16384 + 64 * c + s, ordered ? s + 1 : 1);
            store.get(l).put(20480 + 64 * c + s, answer);
            return answer;
        }

        boolean deliver(int l, int c, Sent packet) {
            if (packet.to == 3) {
                return false;
            }
            if (packet.back > 0) {
                String escrow = "escrow " + l + " " + c + " " + (packet.back - 1);
                if (amount(escrow) < packet.amount) {
                    return false;
                }
                add(escrow, -packet.amount);
                add("user " + l + " " + packet.to + " " + (packet.back - 1), packet.amount);
                return true;
            }
            Integer name = 4 * packet.kind + c;
            if (!vouchers.get(l).contains(name)) {
                if (vouchers.get(l).size() == 5) {
                    sixthRefused = true;
                    return false;
                }
                vouchers.get(l).add(name);
            }
            int kind = vouchers.get(l).indexOf(name) + 1;
            add("user " + l + " " + packet.to + " " + kind, packet.amount);
            return true;
        }

        int acknowledge(int l, int c, int s, int h) {
            if (!isPacket(l, c, s)) {
                return -1;
            }
            if (state(l, c) != 3) {
                return -2;
            }
            boolean ordered = order(l, c) == 1;
            if (packets(l, c).get(s - 1).fate != 0
                    || ordered && acknowledged.get(3 * l + c) + 1 != s) {
                return -8;
            }
            Integer answer = store.get(1 - l).get(20480 + 64 * c + s);
            if (answer == null) {
                return -5;
            }
            int proof = proof(l, h, 20480 + 64 * c + s, answer);
            if (proof != 0) {
                return proof;
            }
            if (ordered) {
                acknowledged.put(3 * l + c, s);
            }
            settle(l, c, s, answer);
            return answer;
        }

        int timeout(int l, int c, int s, int h, boolean forClose) {
            if (!isPacket(l, c, s)) {
                return -1;
            }
            Sent packet = packets(l, c).get(s - 1);
            if (packet.fate != 0) {
                return -8;
            }
            if (!forClose && h < packet.limit) {
                return -9;
            }
            if (forClose && proof(l, h, 4096 + c, 8 + order(l, c)) != 0) {
                return proof(l, h, 4096 + c, 8 + order(l, c));
            }
            int proof;
            if (order(l, c) == 0) {
                proof = proof(l, h, 16384 + 64 * c + s, null);
            } else {
                Integer next = store.get(1 - l).get(8192 + c);
                proof = next > s ? -5 : proof(l, h, 8192 + c, next);
            }
            if (proof == 0) {
                settle(l, c, s, 3);
                if (order(l, c) == 1) {
                    set(l, c, 4, 1);
                }
            }
            return proof;
        }

        void settle(int l, int c, int s, int fate) {
            Sent packet = packets(l, c).get(s - 1);
            packet.fate = fate;
            store.get(l).remove(12288 + 64 * c + s);
            if (fate == 1) {
                return;
            }
            add("user " + l + " " + packet.from + " " + packet.kind, packet.amount);
            if (packet.back == 0) {
                add("escrow " + l + " " + c + " " + packet.kind, -packet.amount);
            }
        }

        int round() {
            tick(0);
            tick(1);
            known.get(0).add(height[1]);
            known.get(1).add(height[0]);
            int count = 0;
            for (int l = 0; l < 2; l++) {
                int h = height[1 - l];
                for (int job = 0; job < 3; job++) {
                    for (int c = 0; c < 3; c++) {
                        for (int s = 1; s <= 12; s++) {
                            int answer = job == 0 ? receive(l, c, s, h, false)
                                    : job == 1 ? acknowledge(l, c, s, h) : timeout(l, c, s, h, false);
                            count += answer >= 0 ? 1 : 0;
                        }
                    }
                }
            }
            return count;
        }

        int end(int l, int c, int what) {
            if (!isEnd(l, c)) {
                return -1;
            }
            switch (what) {
                case 0:
                    return state(l, c);
                case 1:
                    return order(l, c);
                case 2:
                    return packets(l, c).size();
                case 3:
                    return store.get(l).getOrDefault(8192 + c, 1);
                case 4:
                    return acknowledged.get(3 * l + c) + 1;
                default:
                    return -1;
            }
        }

        int root(int l, int h) {
            if (!isLedger(l) || !states.get(l).containsKey(h) || h + 8 <= height[l]) {
                return 0;
            }
            return root(new ArrayList<>(states.get(l).get(h).entrySet()));
        }

        int root(List<Map.Entry<Integer, Integer>> entries) {
            int n = entries.size();
            if (n == 0) {
                return 0;
            }
            if (n == 1) {
                return mix(mix(1, entries.get(0).getKey()), entries.get(0).getValue());
            }
            int m = Integer.highestOneBit(n - 1);
            return mix(mix(2, root(entries.subList(0, m))), root(entries.subList(m, n)));
        }
    }
}
