/** Promises 1 to 15, sentence by sentence: each boundary case that one names has a test of its own. */
public final class BoundaryTest extends Checks {
    private static final int[] NO_PEERS = {-1, 3, LEAST, MOST};
    private static final int[] NO_OBJECTS = {-1, 10, LEAST, MOST};
    private static final int[] NO_NAMES = {-1, 6, LEAST, MOST};

    @Says("No objects, names or leases.")
    private static void p01NothingAtFirst() {
        LeaseDesk desk = new LeaseDesk();
        for (int object = 0; object <= 9; object++) {
            due("kind", desk.object(object, 0), REFUSED);
            for (int what = 1; what <= 5; what++) {
                due("what " + what, desk.object(object, what), 0);
            }
        }
        for (int name = 0; name <= 5; name++) {
            due("lookup", desk.lookup(name), REFUSED);
        }
        due("objects", desk.count(1), 0);
        due("leases that end", desk.tick(60), 0);
    }

    @Says("No objects, names or leases.")
    private static void p01DesksShareNothing() {
        LeaseDesk one = deskWith(COUNTER, VAULT);
        due("bind", one.bind(0, 1, false), DONE);
        fails(one, 0, DIV, 0, 0, ARITHMETIC, 0);
        due("tick", one.tick(9), 0);
        String fresh = stateOf(new LeaseDesk());
        LeaseDesk other = new LeaseDesk();
        same("another desk", stateOf(other), fresh);
        due("export", other.export(CHAIN), 0);
        isThere(one, 0, COUNTER);
    }

    @Says("KIND 0 .. 3.")
    private static void p02WrongKinds() {
        LeaseDesk desk = new LeaseDesk();
        for (int kind : new int[] {-1, 4, LEAST, MOST}) {
            due("export(" + kind + ")", desk.export(kind), REFUSED);
        }
        due("none there", desk.count(1), 0);
        for (int kind = 0; kind <= 3; kind++) {
            due("export(" + kind + ")", desk.export(kind), kind);
            isThere(desk, kind, kind);
        }
    }

    @Says("All ten numbers are in use: FULL.")
    private static void p02Full() {
        LeaseDesk desk = unheld(0, 1, 2, 3, 0, 1, 2, 3, 0);
        due("the tenth", desk.export(1), 9);
        String before = stateOf(desk);
        for (int kind = 0; kind <= 3; kind++) {
            due("an eleventh", desk.export(kind), FULL);
        }
        due("wrong kind", desk.export(4), REFUSED);
        due("wrong kind", desk.export(-1), REFUSED);
        same("nothing changed", stateOf(desk), before);
    }

    @Says("All ten numbers are in use: FULL.")
    private static void p02NotFullAfterAWithdrawal() {
        LeaseDesk desk = unheld(0, 0, 0, 0, 0, 0, 0, 0, 0, 0);
        due("full", desk.export(0), FULL);
        due("bind", desk.bind(0, 9, false), DONE);
        due("unbind", desk.unbind(0), DONE);
        due("the last number", desk.export(3), 9);
        due("full again", desk.export(0), FULL);
    }

    @Says("A new object is there under the least number that is not in use.")
    private static void p02LeastFreeNumber() {
        LeaseDesk desk = deskWith(0, 0, 0, 0, 0, 0);
        for (int number : new int[] {4, 0, 2}) {
            due("release", desk.release(0, number, 2), 1);
        }
        for (int number : new int[] {0, 2, 4, 6, 7}) {
            due("export", desk.export(VAULT), number);
            isThere(desk, number, VAULT);
        }
        isThere(desk, 1, COUNTER);
        due("there", desk.count(1), 8);
    }

    @Says("peer 0 .. 2, object 0 .. 9, sequence any, duration 1 .. 50.")
    private static void p03WrongPeer() {
        LeaseDesk desk = unheld(COUNTER);
        for (int peer : NO_PEERS) {
            due("peer " + peer, desk.lease(peer, 0, 5, 5), REFUSED);
        }
        due("not held", desk.object(0, 1), 0);
        for (int peer = 0; peer <= 2; peer++) {
            due("peer " + peer, desk.lease(peer, 0, 5, 5), 5);
        }
    }

    @Says("peer 0 .. 2, object 0 .. 9, sequence any, duration 1 .. 50.")
    private static void p03WrongObject() {
        LeaseDesk desk = unheld(0, 0, 0, 0, 0, 0, 0, 0, 0, 0);
        for (int object : NO_OBJECTS) {
            due("object " + object, desk.lease(0, object, 5, 5), REFUSED);
        }
        due("object 0", desk.lease(0, 0, 5, 5), 5);
        due("object 9", desk.lease(0, 9, 5, 5), 5);
    }

    @Says("duration 1 .. 50")
    private static void p03Durations() {
        LeaseDesk desk = unheld(COUNTER);
        for (int duration : new int[] {0, 51, -1, LEAST, MOST}) {
            due("duration " + duration, desk.lease(0, 0, 9, duration), REFUSED);
        }
        due("not held", desk.object(0, 1), 0);
        due("duration 1, and the sequence is 0 still", desk.lease(0, 0, 1, 1), 1);
        due("duration 50", desk.lease(0, 0, 2, 50), 50);
        due("duration 51", desk.lease(0, 0, 3, 51), REFUSED);
        due("the lease stands", desk.object(0, 2), 50);
    }

    @Says("sequence any")
    private static void p03AnySequence() {
        LeaseDesk desk = unheld(COUNTER);
        due("least", desk.lease(0, 0, LEAST, 5), REFUSED);
        due("-1", desk.lease(0, 0, -1, 5), REFUSED);
        due("0", desk.lease(0, 0, 0, 5), REFUSED);
        due("most", desk.lease(0, 0, MOST, 5), 5);
        due("most again", desk.lease(0, 0, MOST, 6), REFUSED);
        due("least", desk.lease(0, 0, LEAST, 6), REFUSED);
        due("the lease stands", desk.object(0, 2), 5);
    }

    @Says("The object is not there: GONE.")
    private static void p03Gone() {
        LeaseDesk desk = deskWith(COUNTER);
        for (int object = 1; object <= 9; object++) {
            due("object " + object, desk.lease(0, object, 5, 5), GONE);
        }
        due("gone whatever the sequence", desk.lease(0, 1, 0, 5), GONE);
        due("numbers first", desk.lease(0, 1, 5, 0), REFUSED);
        due("release", desk.release(0, 0, 2), 1);
        due("withdrawn", desk.lease(0, 0, 3, 5), GONE);
        due("exported later", desk.export(COUNTER), 0);
        due("gone left no sequence", desk.lease(0, 0, 1, 5), 5);
    }

    @Says("The sequence is not above the peer's SEQUENCE for it: REFUSED.")
    private static void p03SequenceNotAbove() {
        LeaseDesk desk = unheld(COUNTER);
        due("7", desk.lease(1, 0, 7, 20), 20);
        String before = stateOf(desk);
        due("7 again", desk.lease(1, 0, 7, 30), REFUSED);
        due("6", desk.lease(1, 0, 6, 30), REFUSED);
        due("-8", desk.lease(1, 0, -8, 30), REFUSED);
        same("nothing changed", stateOf(desk), before);
        due("8", desk.lease(1, 0, 8, 30), 30);
        due("another peer's 1", desk.lease(0, 0, 1, 30), 30);
    }

    @Says("It is the SEQUENCE now, and the peer has a LEASE of it that runs till TIME plus the duration.")
    private static void p03RunsTillTimePlusDuration() {
        LeaseDesk desk = unheld(COUNTER);
        due("tick", desk.tick(60), 0);
        due("tick", desk.tick(13), 0);
        due("lease", desk.lease(2, 0, 4, 50), 123);
        due("till", desk.object(0, 4), 123);
        due("a shorter one takes its place", desk.lease(2, 0, 9, 1), 74);
        due("till", desk.object(0, 4), 74);
        due("a longer one takes its place", desk.lease(2, 0, 10, 2), 75);
        due("till", desk.object(0, 4), 75);
        due("10 is the sequence", desk.lease(2, 0, 10, 2), REFUSED);
        due("one before", desk.tick(1), 0);
        due("at its time", desk.tick(1), 1);
    }

    @Says("peer 0 .. 2, object 0 .. 9.")
    private static void p04WrongNumbers() {
        LeaseDesk desk = deskWith(COUNTER);
        String before = stateOf(desk);
        for (int peer : NO_PEERS) {
            due("peer " + peer, desk.release(peer, 0, 5), REFUSED);
            due("peer " + peer + ", not there", desk.release(peer, 1, 5), REFUSED);
        }
        for (int object : NO_OBJECTS) {
            due("object " + object, desk.release(0, object, 5), REFUSED);
        }
        same("nothing changed", stateOf(desk), before);
        due("the sequence is 1 still", desk.release(0, 0, 2), 1);
    }

    @Says("GONE; REFUSED as for lease.")
    private static void p04Gone() {
        LeaseDesk desk = deskWith(COUNTER);
        due("not there", desk.release(0, 1, 5), GONE);
        due("not there, whatever the sequence", desk.release(0, 9, LEAST), GONE);
        due("release", desk.release(0, 0, 2), 1);
        due("withdrawn", desk.release(0, 0, 3), GONE);
        due("export", desk.export(COUNTER), 0);
        due("gone left no sequence", desk.release(0, 0, 1), 0);
    }

    @Says("GONE; REFUSED as for lease.")
    private static void p04SequenceNotAbove() {
        LeaseDesk desk = unheld(COUNTER);
        due("0 at first", desk.release(0, 0, 0), REFUSED);
        due("least at first", desk.release(0, 0, LEAST), REFUSED);
        due("lease", desk.lease(0, 0, 7, 20), 20);
        due("7", desk.release(0, 0, 7), REFUSED);
        due("6", desk.release(0, 0, 6), REFUSED);
        due("the lease stands", desk.object(0, 2), 20);
        due("8", desk.release(0, 0, 8), 1);
        isGone(desk, 0);
    }

    @Says("The sequence is the SEQUENCE now, and the peer has no LEASE of it.")
    private static void p04TheSequenceIsNew() {
        LeaseDesk desk = unheld(COUNTER);
        due("bind", desk.bind(0, 0, false), DONE);
        due("lease", desk.lease(0, 0, 3, 20), 20);
        due("lease of another", desk.lease(1, 0, 3, 25), 25);
        due("release", desk.release(0, 0, MOST - 1), 1);
        due("no lease", desk.object(0, 2), 0);
        due("the other's stands", desk.object(0, 3), 25);
        due("no call", desk.call(0, 0, GET, 0), GONE);
        due("lease, not above", desk.lease(0, 0, MOST - 1, 20), REFUSED);
        due("lease, above", desk.lease(0, 0, MOST, 20), 20);
        due("none is above the most", desk.release(0, 0, MOST), REFUSED);
        due("the other's sequence", desk.release(1, 0, 4), 1);
    }

    @Says("Answers 1 if it had one, else 0.")
    private static void p04Answers() {
        LeaseDesk desk = unheld(COUNTER);
        due("none, never held", desk.release(0, 0, 1), 0);
        isThere(desk, 0, COUNTER);
        due("its sequence counts", desk.release(0, 0, 1), REFUSED);
        due("bind", desk.bind(0, 0, false), DONE);
        due("lease", desk.lease(0, 0, 2, 5), 5);
        due("had one", desk.release(0, 0, 3), 1);
        due("has none", desk.release(0, 0, 4), 0);
        due("lease", desk.lease(0, 0, 5, 5), 5);
        due("ended by itself", desk.tick(5), 1);
        due("has none", desk.release(0, 0, 6), 0);
        due("another never had", desk.release(2, 0, 6), 0);
    }

    @Says("by 0 .. 60.")
    private static void p05WrongBy() {
        LeaseDesk desk = deskWith(COUNTER);
        for (int by : new int[] {-1, 61, LEAST, MOST}) {
            due("tick(" + by + ")", desk.tick(by), REFUSED);
            due("time", desk.count(0), 0);
            due("lease", desk.object(0, 2), 50);
        }
    }

    @Says("TIME goes on by so much")
    private static void p05TimeGoesOn() {
        LeaseDesk desk = new LeaseDesk();
        due("tick(0)", desk.tick(0), 0);
        due("time", desk.count(0), 0);
        due("tick(60)", desk.tick(60), 0);
        due("time", desk.count(0), 60);
        due("tick(1)", desk.tick(1), 0);
        due("time", desk.count(0), 61);
        due("tick(0)", desk.tick(0), 0);
        due("time", desk.count(0), 61);
    }

    @Says("the LEASES that run till a time not above it end")
    private static void p05LeasesEnd() {
        LeaseDesk desk = unheld(COUNTER, COUNTER);
        due("bind", desk.bind(0, 0, false), DONE);
        due("till 9", desk.lease(0, 0, 1, 9), 9);
        due("till 10", desk.lease(1, 0, 1, 10), 10);
        due("till 11", desk.lease(2, 0, 1, 11), 11);
        due("till 11", desk.lease(2, 1, 1, 11), 11);
        due("nothing at 8", desk.tick(8), 0);
        due("one below and one at it", desk.tick(2), 2);
        due("peer 0", desk.object(0, 2), 0);
        due("peer 1", desk.object(0, 3), 0);
        due("peer 2", desk.object(0, 4), 11);
        due("peer 1 calls", desk.call(1, 0, GET, 0), GONE);
        due("peer 2 calls", desk.call(2, 0, GET, 0), DONE);
        due("nothing by 0", desk.tick(0), 0);
        due("the rest", desk.tick(60), 2);
        isThere(desk, 0, COUNTER);
        isGone(desk, 1);
        due("ended once", desk.tick(60), 0);
        due("sequences stay", desk.lease(2, 0, 1, 5), REFUSED);
    }

    @Says("Answers how many ended.")
    private static void p05AllThirtyEnd() {
        LeaseDesk desk = unheld(0, 0, 0, 0, 0, 0, 0, 0, 0, 0);
        for (int object = 0; object <= 9; object++) {
            for (int peer = 0; peer <= 2; peer++) {
                due("lease", desk.lease(peer, object, 1, 50), 50);
            }
        }
        due("none at 49", desk.tick(49), 0);
        due("all at 50", desk.tick(1), 30);
        due("withdrawn", desk.count(2), 10);
        due("there", desk.count(1), 0);
    }

    @Says("name 0 .. 5, object 0 .. 9.")
    private static void p06WrongNumbers() {
        LeaseDesk desk = unheld(0, 0, 0, 0, 0, 0, 0, 0, 0, 0);
        for (int name : NO_NAMES) {
            due("name " + name, desk.bind(name, 0, true), REFUSED);
            due("name " + name, desk.bind(name, 0, false), REFUSED);
        }
        for (int object : NO_OBJECTS) {
            due("object " + object, desk.bind(0, object, true), REFUSED);
            due("object " + object, desk.bind(0, object, false), REFUSED);
        }
        due("not bound", desk.lookup(0), REFUSED);
        due("not held", desk.object(0, 1), 0);
        due("name 0, object 9", desk.bind(0, 9, false), DONE);
        due("name 5, object 0", desk.bind(5, 0, false), DONE);
    }

    @Says("Not there: GONE.")
    private static void p06Gone() {
        LeaseDesk desk = unheld(COUNTER);
        due("not bound, not there", desk.bind(0, 1, false), GONE);
        due("bind", desk.bind(0, 0, false), DONE);
        due("bound, not there", desk.bind(0, 1, false), GONE);
        due("bound, over, not there", desk.bind(0, 1, true), GONE);
        due("wrong name, not there", desk.bind(6, 1, true), REFUSED);
        due("still bound", desk.lookup(0), 0);
        due("withdrawn none", desk.count(2), 0);
    }

    @Says("The name is bound and over is false: REFUSED.")
    private static void p06BoundAlready() {
        LeaseDesk desk = unheld(COUNTER, COUNTER);
        due("bind", desk.bind(2, 0, false), DONE);
        due("to another", desk.bind(2, 1, false), REFUSED);
        due("to the same", desk.bind(2, 0, false), REFUSED);
        due("still", desk.lookup(2), 0);
        due("the other is not held", desk.object(1, 1), 0);
        due("another name", desk.bind(3, 1, false), DONE);
        due("unbind", desk.unbind(3), DONE);
        due("free again", desk.bind(3, 0, false), DONE);
    }

    @Says("The name is bound to the object. DONE.")
    private static void p06BindOver() {
        LeaseDesk desk = unheld(COUNTER, VAULT, BRACKET);
        due("over an unbound name", desk.bind(0, 0, true), DONE);
        due("bound", desk.lookup(0), 0);
        due("over the same", desk.bind(0, 0, true), DONE);
        due("bound once", desk.object(0, 5), 1);
        due("a second name", desk.bind(1, 0, false), DONE);
        due("over another", desk.bind(0, 1, true), DONE);
        due("bound anew", desk.lookup(0), 1);
        due("one name left", desk.object(0, 5), 1);
        isThere(desk, 0, COUNTER);
        due("over the last", desk.bind(1, 2, true), DONE);
        isGone(desk, 0);
        due("withdrawn", desk.count(2), 1);
    }

    @Says("name 0 .. 5. It is not bound: REFUSED.")
    private static void p07NotBound() {
        LeaseDesk desk = unheld(COUNTER);
        for (int name = 0; name <= 5; name++) {
            due("name " + name, desk.unbind(name), REFUSED);
        }
        due("bind", desk.bind(0, 0, false), DONE);
        due("bind", desk.bind(5, 0, false), DONE);
        for (int name : NO_NAMES) {
            due("name " + name, desk.unbind(name), REFUSED);
        }
        due("names", desk.object(0, 5), 2);
        due("unbind", desk.unbind(5), DONE);
        due("unbind again", desk.unbind(5), REFUSED);
        due("the other stays", desk.lookup(0), 0);
    }

    @Says("It is bound no more. DONE.")
    private static void p07BoundNoMore() {
        LeaseDesk desk = deskWith(COUNTER);
        for (int name = 0; name <= 5; name++) {
            due("bind", desk.bind(name, 0, false), DONE);
        }
        for (int name = 5; name >= 0; name--) {
            due("unbind", desk.unbind(name), DONE);
            due("lookup", desk.lookup(name), REFUSED);
            due("names", desk.object(0, 5), name);
        }
        due("the lease holds it", desk.object(0, 1), 1);
        due("bind again", desk.bind(5, 0, false), DONE);
    }

    @Says("The object that name 0 .. 5 is bound to; REFUSED if it is not bound.")
    private static void p08Lookup() {
        LeaseDesk desk = unheld(0, 0, 0, 0, 0, 0, 0, 0, 0, 0);
        for (int name : NO_NAMES) {
            due("name " + name, desk.lookup(name), REFUSED);
        }
        for (int name = 0; name <= 5; name++) {
            due("not bound", desk.lookup(name), REFUSED);
            due("bind", desk.bind(name, 9 - name, false), DONE);
        }
        for (int name = 0; name <= 5; name++) {
            due("bound", desk.lookup(name), 9 - name);
        }
        due("bind to object 0", desk.bind(3, 0, true), DONE);
        due("object 0", desk.lookup(3), 0);
        for (int name : NO_NAMES) {
            due("name " + name, desk.lookup(name), REFUSED);
        }
    }

    @Says("peer 0 .. 2, object 0 .. 9, method 0 .. 5")
    private static void p09WrongNumbers() {
        LeaseDesk desk = deskWith(COUNTER);
        fails(desk, 0, DIV, 0, 0, ARITHMETIC, 0);
        String before = stateOf(desk);
        for (int peer : NO_PEERS) {
            due("peer " + peer, desk.call(peer, 0, PUT, ab(1, 1)), REFUSED);
        }
        for (int object : NO_OBJECTS) {
            due("object " + object, desk.call(0, object, PUT, ab(1, 1)), REFUSED);
        }
        for (int method : new int[] {-1, 6, LEAST, MOST}) {
            due("method " + method, desk.call(0, 0, method, ab(1, 1)), REFUSED);
            due("method " + method + ", no lease", desk.call(1, 0, method, ab(1, 1)), REFUSED);
            due("method " + method + ", not there", desk.call(0, 1, method, ab(1, 1)), REFUSED);
        }
        same("nothing changed, the outcome neither", stateOf(desk), before);
        gives(desk, 0, GET, 0, 0, 0);
    }

    @Says("peer 0 .. 2, object 0 .. 9, method 0 .. 5")
    private static void p09EdgesOfTheNumbers() {
        LeaseDesk desk = unheld(0, 0, 0, 0, 0, 0, 0, 0, 0, 0);
        for (int peer = 0; peer <= 2; peer++) {
            due("lease", desk.lease(peer, 9, 1, 50), 50);
            due("method 0", desk.call(peer, 9, 0, 0), DONE);
            due("method 5", desk.call(peer, 9, 5, ab(1, 8)), DONE);
            due("value", desk.value(), 8);
        }
    }

    @Says("a is the upper half, b the lower half, each as an int")
    private static void p09HalvesOfAb() {
        LeaseDesk desk = deskWith(VAULT, COUNTER);
        due("a 1, b -1", desk.call(0, 0, PUT, 0x00000001FFFFFFFFL), DONE);
        gives(desk, 0, GET, 1, 0, -1);
        gives(desk, 0, GET, 0, 0, 0);
        due("a 0, b least", desk.call(0, 0, PUT, 0x0000000080000000L), DONE);
        gives(desk, 0, GET, 0, 0, LEAST);
        due("a -1, b 0", desk.call(0, 1, PUT, 0xFFFFFFFF00000000L), DONE);
        gives(desk, 1, GET, 0, 0, -1);
        due("a least, b -1", desk.call(0, 1, PUT, 0x80000000FFFFFFFFL), DONE);
        gives(desk, 1, GET, 0, 0, LEAST);
        due("a most, b least", desk.call(0, 1, PUT, 0x7FFFFFFF80000000L), DONE);
        gives(desk, 1, GET, 0, 0, MOST);
        due("a 5, b most", desk.call(0, 1, WAKE, 0x000000057FFFFFFFL), DONE);
        due("value", desk.value(), MOST);
        due("a and b -1", desk.call(0, 1, WAKE, -1L), DONE);
        due("value", desk.value(), -1);
    }

    @Says("The peer has no LEASE of the object, or it is not there: GONE.")
    private static void p09Gone() {
        LeaseDesk desk = unheld(COUNTER, COUNTER);
        due("bind", desk.bind(0, 0, false), DONE);
        due("no lease, though bound", desk.call(0, 0, PUT, ab(1, 0)), GONE);
        due("lease", desk.lease(0, 0, 1, 5), 5);
        due("another peer's", desk.call(1, 0, PUT, ab(1, 0)), GONE);
        due("another object", desk.call(0, 1, PUT, ab(1, 0)), GONE);
        due("not there", desk.call(0, 2, PUT, ab(1, 0)), GONE);
        gives(desk, 0, GET, 0, 0, 0);
        due("one before", desk.tick(4), 0);
        gives(desk, 0, GET, 0, 0, 0);
        due("ended", desk.tick(1), 1);
        due("no lease any more", desk.call(0, 0, GET, 0), GONE);
        due("lease", desk.lease(0, 0, 2, 5), 10);
        gives(desk, 0, GET, 0, 0, 0);
        due("release", desk.release(0, 0, 3), 1);
        due("released", desk.call(0, 0, GET, 0), GONE);
        due("no failures", desk.count(3), 0);
    }

    @Says("The method is done: DONE, or FAILED.")
    private static void p09DoneOrFailed() {
        LeaseDesk desk = deskWith(CHAIN, VAULT);
        due("put", desk.call(0, 0, PUT, ab(1, 0)), DONE);
        due("get", desk.call(0, 0, GET, ab(0, 0)), DONE);
        due("get fails", desk.call(0, 0, GET, ab(4, 0)), FAILED);
        due("use gives -1", desk.call(0, 0, USE, ab(4, 0)), DONE);
        due("use puts", desk.call(0, 0, USE, ab(0, -4)), DONE);
        due("a lease is not needed of the target", desk.release(0, 1, 2), 1);
        due("get", desk.call(0, 0, GET, ab(0, 0)), DONE);
        due("value", desk.value(), -4);
    }

    @Says("The value of the OUTCOME; 0 if it is a failure.")
    private static void p10Value() {
        LeaseDesk desk = deskWith(COUNTER);
        due("at first", desk.value(), 0);
        due("wake", desk.call(0, 0, WAKE, ab(1, LEAST)), DONE);
        due("least", desk.value(), LEAST);
        due("asked again", desk.value(), LEAST);
        due("wake", desk.call(0, 0, WAKE, ab(1, MOST)), DONE);
        due("most", desk.value(), MOST);
        due("wake fails", desk.call(0, 0, WAKE, ab(0, MOST)), FAILED);
        due("a failure", desk.value(), 0);
        due("wake", desk.call(0, 0, WAKE, ab(1, -1)), DONE);
        due("-1", desk.value(), -1);
    }

    @Says("What of failure k of the OUTCOME: 0 its class; 1 its message; 2 how many SUPPRESSED ones it has.")
    private static void p11Failure() {
        LeaseDesk desk = deskWith(CHAIN, BRACKET);
        gives(desk, 0, PUT, 1, 0, 0);
        due("div", desk.call(0, 0, DIV, ab(7, 42)), FAILED);
        int[][] failures = {{FORWARD, 3, 0}, {BODY, 42, 2}};
        for (int k = 0; k < 2; k++) {
            for (int what = 0; what < 3; what++) {
                due("failure(" + k + ", " + what + ")", desk.failure(k, what), failures[k][what]);
            }
        }
    }

    @Says("No such failure, or another what: REFUSED")
    private static void p11NoSuchFailure() {
        LeaseDesk desk = deskWith(CHAIN, BRACKET);
        gives(desk, 0, PUT, 1, 0, 0);
        for (int what = -1; what <= 3; what++) {
            due("of a value", desk.failure(0, what), REFUSED);
        }
        due("div", desk.call(0, 0, DIV, ab(7, 42)), FAILED);
        for (int k : new int[] {2, 3, 6, MOST, -1, LEAST}) {
            for (int what = 0; what < 3; what++) {
                due("failure " + k, desk.failure(k, what), REFUSED);
            }
        }
        for (int what : new int[] {3, -1, LEAST, MOST}) {
            due("what " + what, desk.failure(0, what), REFUSED);
            due("what " + what, desk.failure(1, what), REFUSED);
        }
    }

    @Says("(which may be a message too; what 0 tells)")
    private static void p11MessageMinus1() {
        LeaseDesk desk = deskWith(VAULT);
        due("add", desk.call(0, 0, ADD, ab(0, -1)), FAILED);
        due("message", desk.failure(0, 1), -1);
        due("class", desk.failure(0, 0), SHORT);
        due("no cause", desk.failure(1, 0), REFUSED);
    }

    @Says("No such failure")
    private static void p11TheDeepestFailure() {
        LeaseDesk desk = deskWith(CHAIN);
        gives(desk, 0, PUT, 0, 0, 0);
        due("get", desk.call(0, 0, GET, 0), FAILED);
        due("failure 4", desk.failure(4, 0), FORWARD);
        due("failure 5", desk.failure(5, 0), DEEP);
        due("message 5", desk.failure(5, 1), 5);
        due("failure 6", desk.failure(6, 0), REFUSED);
    }

    @Says("The class of SUPPRESSED failure j, from 0, of failure k of the OUTCOME. None such: REFUSED.")
    private static void p12Suppressed() {
        LeaseDesk desk = deskWith(CHAIN, BRACKET);
        due("no failure at first", desk.suppressed(0, 0), REFUSED);
        gives(desk, 0, PUT, 1, 0, 0);
        due("of a value", desk.suppressed(0, 0), REFUSED);
        due("div", desk.call(0, 0, DIV, ab(7, 42)), FAILED);
        due("first", desk.suppressed(1, 0), CLOSE);
        due("second", desk.suppressed(1, 1), CLOSE);
        for (int j : new int[] {2, 3, MOST, -1, LEAST}) {
            due("suppressed " + j, desk.suppressed(1, j), REFUSED);
        }
        for (int k : new int[] {0, 2, MOST, -1, LEAST}) {
            due("suppressed of " + k, desk.suppressed(k, 0), REFUSED);
        }
        due("div", desk.call(0, 0, DIV, ab(6, 42)), FAILED);
        due("the only one", desk.suppressed(1, 0), CLOSE);
        due("no second", desk.suppressed(1, 1), REFUSED);
        due("div", desk.call(0, 0, DIV, ab(1, 42)), FAILED);
        due("none", desk.suppressed(1, 0), REFUSED);
    }

    @Says("The message of SUPPRESSED failure j of failure k, as a long; -5000000000 if there is none such (also for numbers below 0).")
    private static void p13SuppressedMessage() {
        LeaseDesk desk = deskWith(CHAIN, BRACKET);
        due("no failure at first", desk.suppressedMessage(0, 0), -5000000000L);
        gives(desk, 0, PUT, 1, 0, 0);
        due("of a value", desk.suppressedMessage(0, 0), -5000000000L);
        due("div", desk.call(0, 0, DIV, ab(7, 42)), FAILED);
        due("the second was closed first", desk.suppressedMessage(1, 0), 2);
        due("then the first", desk.suppressedMessage(1, 1), 1);
        for (int j : new int[] {2, 3, MOST, -1, LEAST}) {
            due("suppressedMessage " + j, desk.suppressedMessage(1, j), -5000000000L);
        }
        for (int k : new int[] {0, 2, MOST, -1, LEAST}) {
            due("suppressedMessage of " + k, desk.suppressedMessage(k, 0), -5000000000L);
        }
        due("both below 0", desk.suppressedMessage(-1, -1), -5000000000L);
        due("div", desk.call(0, 0, DIV, ab(6, 42)), FAILED);
        due("the only one", desk.suppressedMessage(1, 0), 1);
        due("no second", desk.suppressedMessage(1, 1), -5000000000L);
        due("div", desk.call(0, 0, DIV, ab(1, 42)), FAILED);
        due("none", desk.suppressedMessage(1, 0), -5000000000L);
    }

    @Says("What of object 0 .. 9")
    private static void p14WrongObject() {
        LeaseDesk desk = deskWith(COUNTER, 0, 0, 0, 0, 0, 0, 0, 0, VAULT);
        for (int object : NO_OBJECTS) {
            for (int what = -1; what <= 6; what++) {
                due("object(" + object + ", " + what + ")", desk.object(object, what), REFUSED);
            }
        }
        due("object 0", desk.object(0, 0), COUNTER);
        due("object 9", desk.object(9, 0), VAULT);
    }

    @Says("0 its KIND, REFUSED if it is not there")
    private static void p14Kind() {
        LeaseDesk desk = unheld(BRACKET, CHAIN, VAULT, COUNTER);
        for (int object = 0; object < 4; object++) {
            due("kind", desk.object(object, 0), 3 - object);
        }
        for (int object = 4; object <= 9; object++) {
            due("not there", desk.object(object, 0), REFUSED);
        }
    }

    @Says("1: 1 if it is HELD, else 0 (0 if it is not there).")
    private static void p14Held() {
        LeaseDesk desk = unheld(COUNTER, COUNTER);
        due("not held", desk.object(0, 1), 0);
        due("not there", desk.object(2, 1), 0);
        due("bind", desk.bind(0, 0, false), DONE);
        due("held", desk.object(0, 1), 1);
        due("held twice is 1", desk.lease(0, 0, 1, 5), 5);
        due("held", desk.object(0, 1), 1);
        due("the other", desk.object(1, 1), 0);
        due("unbind", desk.unbind(0), DONE);
        due("tick", desk.tick(5), 1);
        due("not there any more", desk.object(0, 1), 0);
    }

    @Says("2 .. 4: till when the LEASE of peer 0 .. 2 runs, 0 if it has none.")
    private static void p14Leases() {
        LeaseDesk desk = unheld(COUNTER);
        for (int peer = 0; peer <= 2; peer++) {
            due("none", desk.object(0, 2 + peer), 0);
            due("lease", desk.lease(peer, 0, 1, 10 + peer), 10 + peer);
            due("till", desk.object(0, 2 + peer), 10 + peer);
        }
        due("tick", desk.tick(11), 2);
        due("ended", desk.object(0, 2), 0);
        due("ended", desk.object(0, 3), 0);
        due("runs", desk.object(0, 4), 12);
        for (int what = 2; what <= 4; what++) {
            due("not there", desk.object(1, what), 0);
        }
    }

    @Says("5: how many names are bound to it.")
    private static void p14Names() {
        LeaseDesk desk = unheld(COUNTER, COUNTER);
        due("none", desk.object(0, 5), 0);
        due("not there", desk.object(2, 5), 0);
        for (int name = 0; name <= 5; name++) {
            due("bind", desk.bind(name, 1, false), DONE);
        }
        due("all six", desk.object(1, 5), 6);
        due("bind over", desk.bind(5, 0, true), DONE);
        due("five", desk.object(1, 5), 5);
        due("one", desk.object(0, 5), 1);
        due("unbind", desk.unbind(0), DONE);
        due("four", desk.object(1, 5), 4);
    }

    @Says("Another what: REFUSED.")
    private static void p14AnotherWhat() {
        LeaseDesk desk = deskWith(COUNTER);
        for (int what : new int[] {-1, 6, 7, LEAST, MOST}) {
            due("what " + what, desk.object(0, what), REFUSED);
            due("what " + what + ", not there", desk.object(9, what), REFUSED);
        }
    }

    @Says("0 TIME; 1 how many objects are there")
    private static void p15TimeAndObjects() {
        LeaseDesk desk = new LeaseDesk();
        for (int there = 1; there <= 10; there++) {
            due("export", desk.export(there % 4), there - 1);
            due("there", desk.count(1), there);
        }
        due("full", desk.export(0), FULL);
        due("there", desk.count(1), 10);
        due("time", desk.count(0), 0);
        due("tick", desk.tick(60), 0);
        due("time", desk.count(0), 60);
        due("lease", desk.lease(0, 0, 1, 1), 61);
        due("tick", desk.tick(1), 1);
        due("there", desk.count(1), 9);
        due("time", desk.count(0), 61);
    }

    @Says("2 how many were WITHDRAWN so far")
    private static void p15Withdrawn() {
        LeaseDesk desk = new LeaseDesk();
        for (int turn = 0; turn < 12; turn++) {
            due("withdrawn", desk.count(2), turn);
            due("the same number again", desk.export(COUNTER), 0);
            due("bind", desk.bind(0, 0, false), DONE);
            due("unbind", desk.unbind(0), DONE);
        }
        due("withdrawn", desk.count(2), 12);
        due("there", desk.count(1), 0);
    }

    @Says("3 how many failures (FAILED) there were so far.")
    private static void p15FailedCalls() {
        LeaseDesk desk = deskWith(CHAIN, VAULT, COUNTER);
        gives(desk, 0, PUT, 1, 0, 0);
        due("none", desk.count(3), 0);
        fails(desk, 0, GET, 4, 0, FORWARD, 0, INDEX, 0);
        due("one, though it has a cause", desk.count(3), 1);
        gives(desk, 0, USE, 4, 0, -1);
        gives(desk, 0, USE, 0, -1, 0);
        due("mended ones are none", desk.count(3), 1);
        due("refused", desk.call(0, 0, 6, 0), REFUSED);
        due("gone", desk.call(1, 0, GET, ab(4, 0)), GONE);
        due("asked for a failure", desk.failure(0, 0), REFUSED);
        due("refused and gone ones are none", desk.count(3), 1);
        fails(desk, 2, DIV, 0, 0, ARITHMETIC, 0);
        fails(desk, 2, DIV, 0, 0, ARITHMETIC, 0);
        due("each counts", desk.count(3), 3);
        due("tick", desk.tick(50), 3);
        due("it stays", desk.count(3), 3);
    }

    @Says("Else REFUSED.")
    private static void p15AnotherWhat() {
        LeaseDesk desk = deskWith(COUNTER);
        for (int what : new int[] {-1, 4, 5, LEAST, MOST}) {
            due("count(" + what + ")", desk.count(what), REFUSED);
        }
    }

    public static void main(String[] args) {
        runSentences(BoundaryTest.class);
        end();
    }
}
