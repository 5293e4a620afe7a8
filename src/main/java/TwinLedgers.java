/**
 * Two ledgers that believe of each other only what is proved against a root that they know, and a
 * relayer that carries headers, packets, answers and timeouts between them.
 */
public final class TwinLedgers {
    public static final int WRONG = -1;
    public static final int STATE = -2;
    public static final int UNKNOWN = -3;
    public static final int GONE = -4;
    public static final int PROOF = -5;
    public static final int FORGED = -6;
    public static final int POOR = -7;
    public static final int DONE = -8;
    public static final int LATE = -9;

    private static final int LEDGERS = 2;
    private static final int ENDS = 3;
    private static final int USERS = 4;
    private static final int PACKETS = 12;
    private static final int VOUCHERS = 5;
    private static final int KEPT_STATES = 8;
    private static final int MOST_AMOUNT = 1000;
    private static final int MOST_PATIENCE = 16;
    private static final int USUAL_PATIENCE = 4;
    private static final int ALL_VALIDATORS = 15;
    private static final int ENOUGH_VALIDATORS = 3;

    /** A call makes at most one block of a ledger, so no ledger grows higher in its 512 calls. */
    private static final int MOST_HEIGHT = 512;

    /** The user who takes no packet. */
    private static final int REFUSER = 3;

    private static final int END_NONE = 0;
    private static final int END_INIT = 1;
    private static final int END_TRY = 2;
    private static final int END_OPEN = 3;
    private static final int END_CLOSED = 4;

    private static final int STEP_ACK = 0;
    private static final int STEP_CONFIRM = 1;
    private static final int STEP_CLOSE_TOO = 2;

    /** What became of a packet; the answers 1 and 2 stand for themselves. */
    private static final int PACKET_SENT = 0;
    private static final int ANSWER_TAKEN = 1;
    private static final int ANSWER_REFUSED = 2;
    private static final int PACKET_TIMED_OUT = 3;

    /** What a proof answers when it holds. */
    private static final int HOLDS = 0;

    private final int patience;
    private final Ledger[] ledgers = new Ledger[LEDGERS];

    public TwinLedgers(int patience) {
        this.patience = patience >= 1 && patience <= MOST_PATIENCE ? patience : USUAL_PATIENCE;
        for (int l = 0; l < LEDGERS; l++) {
            ledgers[l] = new Ledger();
        }
    }

    public int tick(int l) {
        return isLedger(l) ? ledgers[l].makeBlock() : WRONG;
    }

    public int update(int l, int h, int set, boolean wrong) {
        if (!isLedger(l) || h < 1 || h > ledgers[1 - l].height) {
            return WRONG;
        }
        if (wrong || Integer.bitCount(set & ALL_VALIDATORS) < ENOUGH_VALIDATORS) {
            return FORGED;
        }
        ledgers[l].client.learn(h);
        return 0;
    }

    public int init(int l, int c, boolean ordered) {
        return isEnd(l, c) ? ledgers[l].startEnd(c, ordered) : WRONG;
    }

    public int attempt(int l, int c, boolean ordered, int h) {
        return isEnd(l, c) ? ledgers[l].tryEnd(ledgers[1 - l], c, ordered, h) : WRONG;
    }

    public int open(int l, int c, int step, int h) {
        if (!isEnd(l, c)) {
            return WRONG;
        }
        Ledger own = ledgers[l];
        Ledger other = ledgers[1 - l];
        switch (step) {
            case STEP_ACK:
                return own.followEnd(other, c, h, END_INIT, END_TRY, END_OPEN);
            case STEP_CONFIRM:
                return own.followEnd(other, c, h, END_TRY, END_OPEN, END_OPEN);
            case STEP_CLOSE_TOO:
                return own.followEnd(other, c, h, END_OPEN, END_CLOSED, END_CLOSED);
            default:
                return WRONG;
        }
    }

    public int close(int l, int c) {
        return isEnd(l, c) ? ledgers[l].closeEnd(c) : WRONG;
    }

    public int send(int l, int c, int who, int kind, int amount) {
        if (!isEnd(l, c) || who < 0 || who >= USERS * USERS || amount < 1 || amount > MOST_AMOUNT) {
            return WRONG;
        }
        if (!ledgers[l].bank.isKind(kind)) {
            return WRONG;
        }
        return ledgers[l].sendPacket(c, who, kind, amount, patience);
    }

    public int receive(int l, int c, int s, int h, boolean wrong) {
        if (!isEnd(l, c) || !isPacket(1 - l, c, s)) {
            return WRONG;
        }
        return ledgers[l].receivePacket(ledgers[1 - l], c, s, h, wrong);
    }

    public int acknowledge(int l, int c, int s, int h) {
        return isPacket(l, c, s) ? ledgers[l].settleAnswered(ledgers[1 - l], c, s, h) : WRONG;
    }

    public int timeout(int l, int c, int s, int h, boolean forClose) {
        if (!isPacket(l, c, s)) {
            return WRONG;
        }
        return ledgers[l].settleTimedOut(ledgers[1 - l], c, s, h, forClose);
    }

    public int round() {
        for (int l = 0; l < LEDGERS; l++) {
            ledgers[l].makeBlock();
        }
        for (int l = 0; l < LEDGERS; l++) {
            ledgers[l].client.learn(ledgers[1 - l].height);
        }
        int moved = 0;
        for (int l = 0; l < LEDGERS; l++) {
            moved += relayPackets(ledgers[l], ledgers[1 - l]);
            moved += relayAnswers(ledgers[l], ledgers[1 - l]);
            moved += relayTimeouts(ledgers[l], ledgers[1 - l]);
        }
        return moved;
    }

    public int height(int l) {
        return isLedger(l) ? ledgers[l].height : WRONG;
    }

    public int root(int l, int h) {
        return isLedger(l) ? ledgers[l].rootAt(h) : 0;
    }

    public boolean knows(int l, int h) {
        return isLedger(l) && ledgers[l].client.hasHeader(h);
    }

    public int end(int l, int c, int what) {
        if (!isEnd(l, c)) {
            return WRONG;
        }
        Ledger own = ledgers[l];
        switch (what) {
            case 0:
                return own.stateOf(c);
            case 1:
                return own.orderOf(c);
            case 2:
                return own.ends[c].sent;
            case 3:
                return own.nextToReceive(c);
            case 4:
                return own.ends[c].nextToAcknowledge;
            default:
                return WRONG;
        }
    }

    public int packet(int l, int c, int s) {
        return isPacket(l, c, s) ? ledgers[l].ends[c].packets[s - 1].fate : WRONG;
    }

    public int limit(int l, int c, int s) {
        return isPacket(l, c, s) ? ledgers[l].ends[c].packets[s - 1].lastHeight : WRONG;
    }

    public int balance(int l, int u, int kind) {
        if (!isLedger(l) || u < 0 || u >= USERS || !ledgers[l].bank.isKind(kind)) {
            return 0;
        }
        return ledgers[l].bank.purses[u][kind];
    }

    public int escrow(int l, int c, int kind) {
        if (!isEnd(l, c) || !ledgers[l].bank.isKind(kind)) {
            return 0;
        }
        return ledgers[l].bank.escrows[c][kind];
    }

    public int voucher(int l, int k) {
        if (!isLedger(l) || k < 1 || !ledgers[l].bank.isKind(k)) {
            return WRONG;
        }
        return 4 * ledgers[l].bank.bases[k] + ledgers[l].bank.channels[k];
    }

    private static boolean isLedger(int l) {
        return l >= 0 && l < LEDGERS;
    }

    private static boolean isEnd(int l, int c) {
        return isLedger(l) && c >= 0 && c < ENDS;
    }

    private boolean isPacket(int l, int c, int s) {
        return isEnd(l, c) && s >= 1 && s <= ledgers[l].ends[c].sent;
    }

    private static int relayPackets(Ledger own, Ledger other) {
        int moved = 0;
        for (int c = 0; c < ENDS; c++) {
            int sent = other.ends[c].sent;
            for (int s = 1; s <= sent; s++) {
                if (own.receivePacket(other, c, s, other.height, false) > 0) {
                    moved++;
                }
            }
        }
        return moved;
    }

    private static int relayAnswers(Ledger own, Ledger other) {
        int moved = 0;
        for (int c = 0; c < ENDS; c++) {
            int sent = own.ends[c].sent;
            for (int s = 1; s <= sent; s++) {
                if (own.settleAnswered(other, c, s, other.height) > 0) {
                    moved++;
                }
            }
        }
        return moved;
    }

    private static int relayTimeouts(Ledger own, Ledger other) {
        int moved = 0;
        for (int c = 0; c < ENDS; c++) {
            int sent = own.ends[c].sent;
            for (int s = 1; s <= sent; s++) {
                if (own.settleTimedOut(other, c, s, other.height, false) == 0) {
                    moved++;
                }
            }
        }
        return moved;
    }

    private static int mix(int h, int x) {
        int g = (h ^ x) * 73244475;
        return g ^ (g >>> 15);
    }

    /**
     * Keys with values. Every key that can ever be there has a slot, and slots rise as keys do, so
     * that a state is copied and its root is made without sorting or making anything.
     */
    private static final class Store {
        private static final int NEXT_SLOTS = ENDS;
        private static final int PRINT_SLOTS = 2 * ENDS;
        private static final int RECEIPT_SLOTS = PRINT_SLOTS + ENDS * PACKETS;
        private static final int ANSWER_SLOTS = RECEIPT_SLOTS + ENDS * PACKETS;
        private static final int SLOTS = ANSWER_SLOTS + ENDS * PACKETS;

        private static final int END_KEYS = 4096;
        private static final int NEXT_KEYS = 8192;
        private static final int PRINT_KEYS = 12288;
        private static final int FAMILY_KEYS = 4096;
        private static final int CHANNEL_KEYS = 64;

        private final int[] values = new int[SLOTS];
        /** Apart from the values, since a print may be any int. */
        private final boolean[] there = new boolean[SLOTS];

        static int endSlot(int c) {
            return c;
        }

        static int nextSlot(int c) {
            return NEXT_SLOTS + c;
        }

        static int printSlot(int c, int s) {
            return PRINT_SLOTS + PACKETS * c + s - 1;
        }

        static int receiptSlot(int c, int s) {
            return RECEIPT_SLOTS + PACKETS * c + s - 1;
        }

        static int answerSlot(int c, int s) {
            return ANSWER_SLOTS + PACKETS * c + s - 1;
        }

        private static int keyOf(int slot) {
            if (slot < NEXT_SLOTS) {
                return END_KEYS + slot;
            }
            if (slot < PRINT_SLOTS) {
                return NEXT_KEYS + slot - NEXT_SLOTS;
            }
            int family = (slot - PRINT_SLOTS) / (ENDS * PACKETS);
            int place = (slot - PRINT_SLOTS) % (ENDS * PACKETS);
            int c = place / PACKETS;
            int s = place % PACKETS + 1;
            return PRINT_KEYS + FAMILY_KEYS * family + CHANNEL_KEYS * c + s;
        }

        void put(int slot, int value) {
            values[slot] = value;
            there[slot] = true;
        }

        void drop(int slot) {
            values[slot] = 0;
            there[slot] = false;
        }

        boolean has(int slot) {
            return there[slot];
        }

        /** The value in a slot, 0 when the key is not there. */
        int valueIn(int slot) {
            return values[slot];
        }

        void copyFrom(Store from) {
            for (int slot = 0; slot < SLOTS; slot++) {
                values[slot] = from.values[slot];
                there[slot] = from.there[slot];
            }
        }

        /** The root; nodes is a row of SLOTS elements to work in. */
        int rootBy(int[] nodes) {
            int count = 0;
            for (int slot = 0; slot < SLOTS; slot++) {
                if (there[slot]) {
                    nodes[count] = mix(mix(1, keyOf(slot)), values[slot]);
                    count++;
                }
            }
            if (count == 0) {
                return 0;
            }
            // Joining neighbours at doubling strides builds the very tree that splits n nodes at
            // the greatest power of 2 below n: a node without a neighbour waits for a wider stride.
            for (int stride = 1; stride < count; stride *= 2) {
                for (int i = 0; i + stride < count; i += 2 * stride) {
                    nodes[i] = mix(mix(2, nodes[i]), nodes[i + stride]);
                }
            }
            return nodes[0];
        }
    }

    /**
     * What a ledger knows of the other one. Only true headers are ever learnt, so that a height
     * stands for its root.
     */
    private static final class Client {
        private final boolean[] known = new boolean[MOST_HEIGHT + 1];
        private int greatest;

        void learn(int h) {
            if (h < 1 || h > MOST_HEIGHT) {
                return;
            }
            known[h] = true;
            greatest = Math.max(greatest, h);
        }

        boolean hasHeader(int h) {
            return h >= 1 && h <= MOST_HEIGHT && known[h];
        }
    }

    private static final class Packet {
        private int kind;
        private int amount;
        private int from;
        private int to;
        private int lastHeight;
        /** 1 + its base if it goes back, else 0. */
        private int back;
        private int fate;

        boolean goesBack() {
            return back > 0;
        }

        /** The print that the packet would have with this much more in it. */
        int printWith(int more) {
            int print = mix(mix(3, kind), amount + more);
            print = mix(print, USERS * from + to);
            return mix(mix(print, lastHeight), back);
        }
    }

    /** The sender's side of an end; its state and what it received stand in the store. */
    private static final class End {
        private final Packet[] packets = new Packet[PACKETS];
        private int sent;
        private int nextToAcknowledge = 1;

        End() {
            for (int i = 0; i < PACKETS; i++) {
                packets[i] = new Packet();
            }
        }
    }

    /** The tokens of a ledger. */
    private static final class Bank {
        private static final int OWN_KIND = 0;
        private static final int FIRST_AMOUNT = 1000;

        private final int[][] purses = new int[USERS][VOUCHERS + 1];
        private final int[][] escrows = new int[ENDS][VOUCHERS + 1];
        private final int[] bases = new int[VOUCHERS + 1];
        private final int[] channels = new int[VOUCHERS + 1];
        private int vouchers;

        Bank() {
            for (int u = 0; u < USERS; u++) {
                purses[u][OWN_KIND] = FIRST_AMOUNT;
            }
        }

        boolean isKind(int kind) {
            return kind >= 0 && kind <= vouchers;
        }

        /** 1 + the base of a kind that goes back when it is sent by end c, else 0. */
        int backBy(int kind, int c) {
            return kind != OWN_KIND && channels[kind] == c ? 1 + bases[kind] : 0;
        }

        void charge(Packet packet, int c) {
            purses[packet.from][packet.kind] -= packet.amount;
            if (!packet.goesBack()) {
                escrows[c][packet.kind] += packet.amount;
            }
        }

        void refund(Packet packet, int c) {
            purses[packet.from][packet.kind] += packet.amount;
            if (!packet.goesBack()) {
                escrows[c][packet.kind] -= packet.amount;
            }
        }

        /** Gives what the other ledger's packet brings by end c; false if it is not taken. */
        boolean take(Packet packet, int c) {
            if (packet.to == REFUSER) {
                return false;
            }
            return packet.goesBack() ? takeBack(packet, c) : takeVoucher(packet, c);
        }

        private boolean takeBack(Packet packet, int c) {
            int base = packet.back - 1;
            if (escrows[c][base] < packet.amount) {
                return false;
            }
            escrows[c][base] -= packet.amount;
            purses[packet.to][base] += packet.amount;
            return true;
        }

        private boolean takeVoucher(Packet packet, int c) {
            int kind = findVoucher(packet.kind, c);
            if (kind == OWN_KIND) {
                if (vouchers >= VOUCHERS) {
                    return false;
                }
                vouchers++;
                kind = vouchers;
                bases[kind] = packet.kind;
                channels[kind] = c;
            }
            purses[packet.to][kind] += packet.amount;
            return true;
        }

        /** The voucher for a base that came by c; OWN_KIND, which is none, if there is none yet. */
        private int findVoucher(int base, int c) {
            for (int kind = 1; kind <= vouchers; kind++) {
                if (bases[kind] == base && channels[kind] == c) {
                    return kind;
                }
            }
            return OWN_KIND;
        }
    }

    /** One ledger; whatever it reads of the other one, it believes only by a proof. */
    private static final class Ledger {
        private final Store store = new Store();
        private final Store[] states = new Store[KEPT_STATES];
        private final int[] nodes = new int[Store.SLOTS];
        private final Client client = new Client();
        private final Bank bank = new Bank();
        private final End[] ends = new End[ENDS];
        private int height;

        Ledger() {
            for (int i = 0; i < KEPT_STATES; i++) {
                states[i] = new Store();
            }
            for (int c = 0; c < ENDS; c++) {
                ends[c] = new End();
            }
        }

        int makeBlock() {
            if (height < MOST_HEIGHT) {
                height++;
                states[height % KEPT_STATES].copyFrom(store);
            }
            return height;
        }

        boolean keeps(int h) {
            return h >= 1 && h <= height && h > height - KEPT_STATES;
        }

        int rootAt(int h) {
            return keeps(h) ? states[h % KEPT_STATES].rootBy(nodes) : 0;
        }

        int stateOf(int c) {
            return store.valueIn(Store.endSlot(c)) / 2;
        }

        int orderOf(int c) {
            return store.valueIn(Store.endSlot(c)) % 2;
        }

        boolean isOrdered(int c) {
            return orderOf(c) == 1;
        }

        /** Stays 1 at an end that is not ordered, which has no such key. */
        int nextToReceive(int c) {
            return Math.max(1, store.valueIn(Store.nextSlot(c)));
        }

        /** HOLDS if the other one's state at h can be looked at, else how the proof fails. */
        private int reach(Ledger other, int h) {
            if (!client.hasHeader(h)) {
                return UNKNOWN;
            }
            return other.keeps(h) ? HOLDS : GONE;
        }

        private int proveValue(Ledger other, int h, int slot, int value) {
            int fault = reach(other, h);
            if (fault != HOLDS) {
                return fault;
            }
            Store state = other.states[h % KEPT_STATES];
            return state.has(slot) && state.valueIn(slot) == value ? HOLDS : PROOF;
        }

        private int proveAbsence(Ledger other, int h, int slot) {
            int fault = reach(other, h);
            if (fault != HOLDS) {
                return fault;
            }
            return other.states[h % KEPT_STATES].has(slot) ? PROOF : HOLDS;
        }

        private int proveEnd(Ledger other, int h, int c, int state, int order) {
            return proveValue(other, h, Store.endSlot(c), 2 * state + order);
        }

        int startEnd(int c, boolean ordered) {
            if (stateOf(c) != END_NONE) {
                return STATE;
            }
            makeEnd(c, END_INIT, ordered ? 1 : 0);
            return 0;
        }

        private void makeEnd(int c, int state, int order) {
            store.put(Store.endSlot(c), 2 * state + order);
            if (order == 1) {
                store.put(Store.nextSlot(c), 1);
            }
        }

        int tryEnd(Ledger other, int c, boolean ordered, int h) {
            int order = ordered ? 1 : 0;
            boolean begun = stateOf(c) == END_INIT && orderOf(c) == order;
            if (stateOf(c) != END_NONE && !begun) {
                return STATE;
            }
            int fault = proveEnd(other, h, c, END_INIT, order);
            if (fault != HOLDS) {
                return fault;
            }
            makeEnd(c, END_TRY, order);
            return 0;
        }

        /** Moves an end from one state to another, if the other one's is proved to be in theirs. */
        int followEnd(Ledger other, int c, int h, int before, int theirs, int after) {
            if (stateOf(c) != before) {
                return STATE;
            }
            int fault = proveEnd(other, h, c, theirs, orderOf(c));
            if (fault != HOLDS) {
                return fault;
            }
            moveEnd(c, after);
            return 0;
        }

        int closeEnd(int c) {
            if (stateOf(c) != END_OPEN) {
                return STATE;
            }
            moveEnd(c, END_CLOSED);
            return 0;
        }

        private void moveEnd(int c, int state) {
            store.put(Store.endSlot(c), 2 * state + orderOf(c));
        }

        int sendPacket(int c, int who, int kind, int amount, int patience) {
            if (stateOf(c) != END_OPEN) {
                return STATE;
            }
            End end = ends[c];
            int from = who / USERS;
            if (end.sent >= PACKETS || bank.purses[from][kind] < amount) {
                return POOR;
            }
            Packet packet = end.packets[end.sent];
            packet.kind = kind;
            packet.amount = amount;
            packet.from = from;
            packet.to = who % USERS;
            packet.lastHeight = client.greatest + patience;
            packet.back = bank.backBy(kind, c);
            end.sent++;
            bank.charge(packet, c);
            store.put(Store.printSlot(c, end.sent), packet.printWith(0));
            return end.sent;
        }

        int receivePacket(Ledger other, int c, int s, int h, boolean wrong) {
            Packet packet = other.ends[c].packets[s - 1];
            if (stateOf(c) != END_OPEN) {
                return STATE;
            }
            if (height >= packet.lastHeight) {
                return LATE;
            }
            if (!isReceivable(c, s)) {
                return DONE;
            }
            int print = packet.printWith(wrong ? 1 : 0);
            int fault = proveValue(other, h, Store.printSlot(c, s), print);
            if (fault != HOLDS) {
                return fault;
            }
            int answer = bank.take(packet, c) ? ANSWER_TAKEN : ANSWER_REFUSED;
            noteReceived(c, s, answer);
            return answer;
        }

        private boolean isReceivable(int c, int s) {
            return isOrdered(c) ? s == nextToReceive(c) : !store.has(Store.receiptSlot(c, s));
        }

        private void noteReceived(int c, int s, int answer) {
            if (isOrdered(c)) {
                store.put(Store.nextSlot(c), s + 1);
            } else {
                store.put(Store.receiptSlot(c, s), 1);
            }
            store.put(Store.answerSlot(c, s), answer);
        }

        int settleAnswered(Ledger other, int c, int s, int h) {
            End end = ends[c];
            if (stateOf(c) != END_OPEN) {
                return STATE;
            }
            boolean inTurn = !isOrdered(c) || s == end.nextToAcknowledge;
            if (end.packets[s - 1].fate != PACKET_SENT || !inTurn) {
                return DONE;
            }
            int slot = Store.answerSlot(c, s);
            if (!other.store.has(slot)) {
                return PROOF;
            }
            int answer = other.store.valueIn(slot);
            int fault = proveValue(other, h, slot, answer);
            if (fault != HOLDS) {
                return fault;
            }
            if (isOrdered(c)) {
                end.nextToAcknowledge = s + 1;
            }
            settle(c, s, answer);
            return answer;
        }

        int settleTimedOut(Ledger other, int c, int s, int h, boolean forClose) {
            Packet packet = ends[c].packets[s - 1];
            if (packet.fate != PACKET_SENT) {
                return DONE;
            }
            if (!forClose && h < packet.lastHeight) {
                return LATE;
            }
            int fault = forClose ? proveEnd(other, h, c, END_CLOSED, orderOf(c)) : HOLDS;
            if (fault == HOLDS) {
                fault = proveNotReceived(other, c, s, h);
            }
            if (fault != HOLDS) {
                return fault;
            }
            settle(c, s, PACKET_TIMED_OUT);
            if (isOrdered(c)) {
                moveEnd(c, END_CLOSED);
            }
            return 0;
        }

        private int proveNotReceived(Ledger other, int c, int s, int h) {
            if (!isOrdered(c)) {
                return proveAbsence(other, h, Store.receiptSlot(c, s));
            }
            int next = other.nextToReceive(c);
            return next > s ? PROOF : proveValue(other, h, Store.nextSlot(c), next);
        }

        private void settle(int c, int s, int fate) {
            Packet packet = ends[c].packets[s - 1];
            packet.fate = fate;
            store.drop(Store.printSlot(c, s));
            if (fate != ANSWER_TAKEN) {
                bank.refund(packet, c);
            }
        }
    }
}
