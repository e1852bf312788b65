/**
 * Exported objects of four kinds whose methods are called by peers under leases.
 *
 * <p>The document calls them objects; here they are items, so that they are not mistaken for Java's.
 */
public final class LeaseDesk {
    public static final int DONE = 0;
    public static final int REFUSED = -1;
    public static final int FULL = -2;
    public static final int GONE = -3;
    public static final int FAILED = -4;

    private static final int ITEMS = 10;
    private static final int PEERS = 3;
    private static final int NAMES = 6;
    private static final int LONGEST_LEASE = 50;
    private static final int LONGEST_TICK = 60;
    private static final int DEPTH_LIMIT = 5;
    private static final int UNBOUND = -1;
    private static final long NO_SUCH_MESSAGE = -5000000000L;

    private static final int COUNTER = 0;
    private static final int VAULT = 1;
    private static final int CHAIN = 2;
    private static final int BRACKET = 3;

    private static final int GET = 0;
    private static final int PUT = 1;
    private static final int ADD = 2;
    private static final int DIV = 3;
    private static final int USE = 4;
    private static final int WAKE = 5;

    private static final int ARITHMETIC = 1;
    private static final int INDEX = 2;
    private static final int NULL = 3;
    private static final int SHORT = 4;
    private static final int FORWARD = 5;
    private static final int DEEP = 6;
    private static final int BODY = 7;
    private static final int CLOSE = 8;
    private static final int NO_METHOD = 9;
    private static final int MONITOR = 10;

    private final Item[] items;
    private final int[] names;
    private int time;
    private int withdrawn;
    private int failedCalls;
    private Reply outcome;

    public LeaseDesk() {
        items = new Item[ITEMS];
        names = new int[NAMES];
        for (int name = 0; name < NAMES; name++) {
            names[name] = UNBOUND;
        }
        time = 0;
        withdrawn = 0;
        failedCalls = 0;
        outcome = new Reply(0, null);
    }

    public int export(int kind) {
        if (kind < COUNTER || kind > BRACKET) {
            return REFUSED;
        }
        for (int number = 0; number < ITEMS; number++) {
            if (items[number] == null) {
                items[number] = newItem(kind);
                return number;
            }
        }
        return FULL;
    }

    public int lease(int peer, int object, int sequence, int duration) {
        if (!isPeer(peer) || !isItemNumber(object) || duration < 1 || duration > LONGEST_LEASE) {
            return REFUSED;
        }
        Item item = items[object];
        if (item == null) {
            return GONE;
        }
        if (sequence <= item.sequences[peer]) {
            return REFUSED;
        }
        int till = time + duration;
        item.sequences[peer] = sequence;
        item.tills[peer] = till;
        settle();
        return till;
    }

    public int release(int peer, int object, int sequence) {
        if (!isPeer(peer) || !isItemNumber(object)) {
            return REFUSED;
        }
        Item item = items[object];
        if (item == null) {
            return GONE;
        }
        if (sequence <= item.sequences[peer]) {
            return REFUSED;
        }
        int had = item.isLeasedBy(peer) ? 1 : 0;
        item.sequences[peer] = sequence;
        item.tills[peer] = 0;
        settle();
        return had;
    }

    public int tick(int by) {
        if (by < 0 || by > LONGEST_TICK) {
            return REFUSED;
        }
        time += by;
        int ended = 0;
        for (int number = 0; number < ITEMS; number++) {
            Item item = items[number];
            if (item != null) {
                ended += item.endLeases(time);
            }
        }
        settle();
        return ended;
    }

    public int bind(int name, int object, boolean over) {
        if (!isName(name) || !isItemNumber(object)) {
            return REFUSED;
        }
        if (items[object] == null) {
            return GONE;
        }
        if (names[name] != UNBOUND && !over) {
            return REFUSED;
        }
        names[name] = object;
        settle();
        return DONE;
    }

    public int unbind(int name) {
        if (!isName(name) || names[name] == UNBOUND) {
            return REFUSED;
        }
        names[name] = UNBOUND;
        settle();
        return DONE;
    }

    public int lookup(int name) {
        if (!isName(name) || names[name] == UNBOUND) {
            return REFUSED;
        }
        return names[name];
    }

    public int call(int peer, int object, int method, long ab) {
        if (!isPeer(peer) || !isItemNumber(object) || method < GET || method > WAKE) {
            return REFUSED;
        }
        Item item = items[object];
        if (item == null || !item.isLeasedBy(peer)) {
            return GONE;
        }
        outcome = item.perform(method, (int) (ab >> 32), (int) ab, 0);
        settle();
        if (outcome.fault == null) {
            return DONE;
        }
        failedCalls++;
        return FAILED;
    }

    public long value() {
        return outcome.number;
    }

    public int failure(int k, int what) {
        Fault fault = faultAt(k);
        if (fault == null) {
            return REFUSED;
        }
        switch (what) {
            case 0:
                return fault.type;
            case 1:
                return fault.message;
            case 2:
                return fault.addedSize;
            default:
                return REFUSED;
        }
    }

    public int suppressed(int k, int j) {
        Fault added = addedFaultAt(k, j);
        return added == null ? REFUSED : added.type;
    }

    public long suppressedMessage(int k, int j) {
        Fault added = addedFaultAt(k, j);
        return added == null ? NO_SUCH_MESSAGE : added.message;
    }

    public int object(int object, int what) {
        if (!isItemNumber(object) || what < 0 || what > 5) {
            return REFUSED;
        }
        Item item = items[object];
        if (item == null) {
            return what == 0 ? REFUSED : 0;
        }
        switch (what) {
            case 0:
                return item.kind;
            case 1:
                return isHeld(object) ? 1 : 0;
            case 5:
                return namesBoundTo(object);
            default:
                return item.tills[what - 2];
        }
    }

    public int count(int what) {
        switch (what) {
            case 0:
                return time;
            case 1:
                return itemsThere();
            case 2:
                return withdrawn;
            case 3:
                return failedCalls;
            default:
                return REFUSED;
        }
    }

    private static boolean isPeer(int peer) {
        return peer >= 0 && peer < PEERS;
    }

    private static boolean isName(int name) {
        return name >= 0 && name < NAMES;
    }

    private static boolean isItemNumber(int number) {
        return number >= 0 && number < ITEMS;
    }

    private Item newItem(int kind) {
        switch (kind) {
            case COUNTER:
                return new Counter();
            case VAULT:
                return new Vault();
            case CHAIN:
                return new Chain(items);
            default:
                return new Bracket();
        }
    }

    private int itemsThere() {
        int there = 0;
        for (int number = 0; number < ITEMS; number++) {
            if (items[number] != null) {
                there++;
            }
        }
        return there;
    }

    private int namesBoundTo(int number) {
        int bound = 0;
        for (int name = 0; name < NAMES; name++) {
            if (names[name] == number) {
                bound++;
            }
        }
        return bound;
    }

    private boolean isHeld(int number) {
        Item item = items[number];
        return item != null && (namesBoundTo(number) > 0 || item.isLeased() || isTarget(item));
    }

    private boolean isTarget(Item item) {
        for (int number = 0; number < ITEMS; number++) {
            Item holder = items[number];
            if (holder != null && holder.target() == item) {
                return true;
            }
        }
        return false;
    }

    /** The end of each call that changes who holds what. */
    private void settle() {
        noteHeldItems();
        // A round that withdraws may free a target of what went, and each such round takes one item or more.
        for (int round = 0; round < ITEMS; round++) {
            if (!withdrawOnce()) {
                return;
            }
        }
    }

    private void noteHeldItems() {
        for (int number = 0; number < ITEMS; number++) {
            Item item = items[number];
            if (item != null && isHeld(number)) {
                item.wasHeld = true;
            }
        }
    }

    private boolean withdrawOnce() {
        boolean any = false;
        for (int number = 0; number < ITEMS; number++) {
            Item item = items[number];
            if (item != null && item.wasHeld && !isHeld(number)) {
                items[number] = null;
                withdrawn++;
                any = true;
            }
        }
        return any;
    }

    private Fault faultAt(int k) {
        if (k < 0) {
            return null;
        }
        Fault fault = outcome.fault;
        for (int i = 0; i < k && fault != null; i++) {
            fault = fault.cause;
        }
        return fault;
    }

    private Fault addedFaultAt(int k, int j) {
        Fault fault = faultAt(k);
        return fault == null ? null : fault.addedAt(j);
    }

    /** A failure of the document. */
    private static final class Fault {
        // A bracket closes two things, so no failure ever has more than two added to it.
        private static final int MOST_ADDED = 2;

        final int type;
        final int message;
        final Fault cause;
        // Few failures have any added: the row is made for the first one.
        private Fault[] added;
        int addedSize;

        Fault(int type, int message, Fault cause) {
            this.type = type;
            this.message = message;
            this.cause = cause;
            added = null;
            addedSize = 0;
        }

        void addFault(Fault later) {
            if (added == null) {
                added = new Fault[MOST_ADDED];
            }
            if (addedSize < MOST_ADDED) {
                added[addedSize] = later;
                addedSize++;
            }
        }

        Fault addedAt(int j) {
            return added != null && j >= 0 && j < addedSize ? added[j] : null;
        }
    }

    /** What a method gives: a number, or a fault (the number is 0 then, as the face tells it). */
    private static final class Reply {
        final int number;
        final Fault fault;

        Reply(int number, Fault fault) {
            this.number = number;
            this.fault = fault;
        }

        static Reply of(int number) {
            return new Reply(number, null);
        }

        static Reply failed(int type, int message, Fault cause) {
            return new Reply(0, new Fault(type, message, cause));
        }

        static Reply failed(int type) {
            return failed(type, 0, null);
        }

        boolean failedWith(int type) {
            return fault != null && fault.type == type;
        }
    }

    /** An exported object, with the peers' leases of it. */
    private abstract static class Item {
        final int kind;
        // A lease runs till 1 at the least, so 0 says that the peer has none.
        final int[] tills;
        final int[] sequences;
        boolean wasHeld;

        Item(int kind) {
            this.kind = kind;
            tills = new int[PEERS];
            sequences = new int[PEERS];
            wasHeld = false;
        }

        /** All that a kind does but wake, which every kind does alike. */
        abstract Reply performOwn(int method, int a, int b, int depth);

        Item target() {
            return null;
        }

        final Reply perform(int method, int a, int b, int depth) {
            if (depth >= DEPTH_LIMIT) {
                return Reply.failed(DEEP, DEPTH_LIMIT, null);
            }
            if (method == WAKE) {
                return isOdd(a) ? Reply.of(b) : Reply.failed(MONITOR);
            }
            return performOwn(method, a, b, depth);
        }

        final boolean isLeasedBy(int peer) {
            return tills[peer] != 0;
        }

        final boolean isLeased() {
            for (int peer = 0; peer < PEERS; peer++) {
                if (isLeasedBy(peer)) {
                    return true;
                }
            }
            return false;
        }

        final int endLeases(int now) {
            int ended = 0;
            for (int peer = 0; peer < PEERS; peer++) {
                if (isLeasedBy(peer) && tills[peer] <= now) {
                    tills[peer] = 0;
                    ended++;
                }
            }
            return ended;
        }

        static boolean isOdd(int a) {
            return (a & 1) != 0;
        }
    }

    private static final class Counter extends Item {
        private int held;

        Counter() {
            super(COUNTER);
            held = 0;
        }

        Reply performOwn(int method, int a, int b, int depth) {
            switch (method) {
                case GET:
                    return Reply.of(held);
                case PUT:
                    return exchange(a);
                case ADD:
                    return increase(a);
                case DIV:
                    return a == 0 ? Reply.failed(ARITHMETIC) : Reply.of(held / a);
                default:
                    return Reply.failed(NO_METHOD);
            }
        }

        private Reply exchange(int a) {
            int before = held;
            held = a;
            return Reply.of(before);
        }

        private Reply increase(int a) {
            long sum = (long) held + a;
            if (sum != (int) sum) {
                return Reply.failed(ARITHMETIC);
            }
            held = (int) sum;
            return Reply.of(held);
        }
    }

    private static final class Vault extends Item {
        private static final int CELLS = 4;

        private final int[] cells;

        Vault() {
            super(VAULT);
            cells = new int[CELLS];
        }

        Reply performOwn(int method, int a, int b, int depth) {
            if (method == DIV || method == USE) {
                return Reply.failed(NO_METHOD);
            }
            if (a < 0 || a >= CELLS) {
                return Reply.failed(INDEX);
            }
            switch (method) {
                case GET:
                    return Reply.of(cells[a]);
                case PUT:
                    return exchange(a, b);
                default:
                    return increase(a, b);
            }
        }

        private Reply exchange(int cell, int b) {
            int before = cells[cell];
            cells[cell] = b;
            return Reply.of(before);
        }

        private Reply increase(int cell, int b) {
            int sum = cells[cell] + b;
            if (sum < 0) {
                return Reply.failed(SHORT, sum, null);
            }
            cells[cell] = sum;
            return Reply.of(sum);
        }
    }

    private static final class Chain extends Item {
        private final Item[] all;
        private Item aim;
        private int uses;

        Chain(Item[] all) {
            super(CHAIN);
            this.all = all;
            aim = null;
            uses = 0;
        }

        Item target() {
            return aim;
        }

        Reply performOwn(int method, int a, int b, int depth) {
            switch (method) {
                case GET:
                    return forward(GET, GET, a, b, depth);
                case PUT:
                    aim = isItemNumber(a) ? all[a] : null;
                    return Reply.of(uses);
                case ADD:
                    return forward(ADD, ADD, a, b, depth);
                case DIV:
                    return forward(DIV, USE, a, b, depth);
                default:
                    return useTarget(a, b, depth);
            }
        }

        private Reply forward(int own, int theirs, int a, int b, int depth) {
            if (aim == null) {
                return Reply.failed(NULL);
            }
            Reply reply = aim.perform(theirs, a, b, depth + 1);
            return reply.fault == null ? reply : Reply.failed(FORWARD, own, reply.fault);
        }

        private Reply useTarget(int a, int b, int depth) {
            Reply reply = addOrMend(a, b, depth);
            uses++;
            return reply;
        }

        private Reply addOrMend(int a, int b, int depth) {
            if (aim == null) {
                return Reply.failed(NULL);
            }
            Reply reply = aim.perform(ADD, a, b, depth + 1);
            if (reply.failedWith(SHORT)) {
                return aim.perform(PUT, a, b, depth + 1);
            }
            if (reply.failedWith(ARITHMETIC) || reply.failedWith(INDEX)) {
                return Reply.of(-1);
            }
            return reply;
        }
    }

    private static final class Bracket extends Item {
        private static final int FIRST = 1;
        private static final int SECOND = 2;
        private static final int SECOND_FAILS = 2;
        private static final int FIRST_FAILS = 4;

        private int closings;

        Bracket() {
            super(BRACKET);
            closings = 0;
        }

        Reply performOwn(int method, int a, int b, int depth) {
            switch (method) {
                case GET:
                    return Reply.of(closings);
                case USE:
                    return useBoth(a, b);
                default:
                    return Reply.failed(NO_METHOD);
            }
        }

        private Reply useBoth(int a, int b) {
            Fault fault = isOdd(a) ? new Fault(BODY, b, null) : null;
            fault = close(SECOND, (a & SECOND_FAILS) != 0, fault);
            fault = close(FIRST, (a & FIRST_FAILS) != 0, fault);
            return fault == null ? Reply.of(b + a) : new Reply(0, fault);
        }

        /** The fault that use has after this closing: the earliest one, the later ones being added to it. */
        private Fault close(int which, boolean fails, Fault earlier) {
            closings++;
            if (!fails) {
                return earlier;
            }
            Fault fault = new Fault(CLOSE, which, null);
            if (earlier == null) {
                return fault;
            }
            earlier.addFault(fault);
            return earlier;
        }
    }
}
