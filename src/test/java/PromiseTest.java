/** For each promise of the document: ordinary inputs, the edges that it names, and wrong inputs. */
public final class PromiseTest extends Checks {
    private static void newObject() {
        LeaseDesk desk = new LeaseDesk();
        for (int object = 0; object < 10; object++) {
            due("kind", desk.object(object, 0), REFUSED);
            for (int what = 1; what <= 5; what++) {
                due("what " + what, desk.object(object, what), 0);
            }
        }
        for (int name = 0; name < 6; name++) {
            due("lookup", desk.lookup(name), REFUSED);
        }
        for (int what = 0; what < 4; what++) {
            due("count " + what, desk.count(what), 0);
        }
        due("value", desk.value(), 0);
        due("failure", desk.failure(0, 0), REFUSED);
        due("suppressed", desk.suppressed(0, 0), REFUSED);
        due("suppressedMessage", desk.suppressedMessage(0, 0), NONE_SUCH);
        LeaseDesk other = new LeaseDesk();
        due("export", desk.export(VAULT), 0);
        due("desks share nothing", other.count(1), 0);
    }

    private static void export() {
        LeaseDesk desk = new LeaseDesk();
        due("export(-1)", desk.export(-1), REFUSED);
        due("export(4)", desk.export(4), REFUSED);
        due("export(least)", desk.export(LEAST), REFUSED);
        for (int number = 0; number < 10; number++) {
            due("export", desk.export(number % 4), number);
            due("kind", desk.object(number, 0), number % 4);
        }
        due("export when full", desk.export(COUNTER), FULL);
        due("wrong kind when full", desk.export(4), REFUSED);
        due("count", desk.count(1), 10);
        due("never held is not withdrawn", desk.tick(60), 0);
        due("count", desk.count(1), 10);
        for (int number = 7; number >= 3; number -= 4) {
            due("lease", desk.lease(1, number, 9, 1), 61);
            due("release", desk.release(1, number, 10), 1);
        }
        due("count", desk.count(1), 8);
        due("least free number", desk.export(VAULT), 3);
        due("next free number", desk.export(CHAIN), 7);
        due("full again", desk.export(CHAIN), FULL);
        due("the sequence is 0 again", desk.lease(1, 3, 1, 1), 61);
        due("a new vault", desk.call(1, 3, GET, ab(0, 0)), DONE);
    }

    private static void exportMakesAnew() {
        LeaseDesk desk = deskWith(COUNTER, VAULT, BRACKET, CHAIN);
        gives(desk, 0, PUT, 5, 0, 0);
        gives(desk, 1, PUT, 2, 6, 0);
        gives(desk, 2, USE, 0, 0, 0);
        fails(desk, 3, USE, 0, 0, NULL, 0);
        due("tick", desk.tick(50), 4);
        due("all withdrawn", desk.count(2), 4);
        for (int number = 0; number < 4; number++) {
            due("export", desk.export(number == 2 ? BRACKET : number == 3 ? CHAIN : number), number);
            due("not held yet", desk.object(number, 1), 0);
            due("lease", desk.lease(0, number, 1, 50), 100);
        }
        gives(desk, 0, GET, 0, 0, 0);
        gives(desk, 1, GET, 2, 0, 0);
        gives(desk, 2, GET, 0, 0, 0);
        gives(desk, 3, PUT, -1, 0, 0);
    }

    private static void lease() {
        LeaseDesk desk = new LeaseDesk();
        due("not there", desk.lease(0, 0, 1, 1), GONE);
        due("numbers come first", desk.lease(0, 0, 1, 0), REFUSED);
        due("export", desk.export(COUNTER), 0);
        due("peer -1", desk.lease(-1, 0, 1, 1), REFUSED);
        due("peer 3", desk.lease(3, 0, 1, 1), REFUSED);
        due("object -1", desk.lease(0, -1, 1, 1), REFUSED);
        due("object 10", desk.lease(0, 10, 1, 1), REFUSED);
        due("duration 0", desk.lease(0, 0, 1, 0), REFUSED);
        due("duration 51", desk.lease(0, 0, 1, 51), REFUSED);
        due("sequence 0", desk.lease(0, 0, 0, 1), REFUSED);
        due("sequence least", desk.lease(0, 0, LEAST, 1), REFUSED);
        due("nothing changed", desk.object(0, 1), 0);
        due("tick", desk.tick(7), 0);
        due("duration 50", desk.lease(0, 0, 1, 50), 57);
        due("the same sequence", desk.lease(0, 0, 1, 1), REFUSED);
        due("another peer's sequence", desk.lease(2, 0, 1, 1), 8);
        due("a shorter lease", desk.lease(0, 0, 5, 3), 10);
        due("a sequence between", desk.lease(0, 0, 4, 3), REFUSED);
        due("peer 0", desk.object(0, 2), 10);
        due("peer 1", desk.object(0, 3), 0);
        due("peer 2", desk.object(0, 4), 8);
        due("held", desk.object(0, 1), 1);
        due("the most", desk.lease(0, 0, MOST, 1), 8);
        due("nothing is above", desk.lease(0, 0, MOST, 1), REFUSED);
    }

    private static void release() {
        LeaseDesk desk = new LeaseDesk();
        due("not there", desk.release(0, 0, 1), GONE);
        due("peer -1", desk.release(-1, 0, 1), REFUSED);
        due("peer 3", desk.release(3, 0, 1), REFUSED);
        due("object -1", desk.release(0, -1, 1), REFUSED);
        due("object 10", desk.release(0, 10, 1), REFUSED);
        due("export", desk.export(BRACKET), 0);
        due("sequence 0", desk.release(0, 0, 0), REFUSED);
        due("it had none", desk.release(0, 0, 4), 0);
        due("never held stays", desk.count(1), 1);
        due("the sequence counts for lease", desk.lease(0, 0, 4, 9), REFUSED);
        due("lease", desk.lease(0, 0, 5, 9), 9);
        due("lease of another", desk.lease(1, 0, 1, 9), 9);
        due("the same sequence", desk.release(0, 0, 5), REFUSED);
        due("the lease stands", desk.object(0, 2), 9);
        due("it had one", desk.release(0, 0, 6), 1);
        due("the lease is gone", desk.object(0, 2), 0);
        due("the other holds", desk.count(1), 1);
        due("it has none", desk.release(0, 0, 7), 0);
        due("the last", desk.release(1, 0, 2), 1);
        due("withdrawn", desk.count(2), 1);
        due("gone", desk.release(1, 0, 3), GONE);
    }

    private static void tick() {
        LeaseDesk desk = new LeaseDesk();
        due("tick(-1)", desk.tick(-1), REFUSED);
        due("tick(61)", desk.tick(61), REFUSED);
        due("time", desk.count(0), 0);
        due("tick(0)", desk.tick(0), 0);
        due("tick(60)", desk.tick(60), 0);
        due("time", desk.count(0), 60);
        due("export", desk.export(COUNTER), 0);
        due("export", desk.export(COUNTER), 1);
        due("lease", desk.lease(0, 0, 1, 5), 65);
        due("lease", desk.lease(1, 0, 1, 6), 66);
        due("lease", desk.lease(2, 1, 1, 5), 65);
        due("one below", desk.tick(4), 0);
        due("two end at their time", desk.tick(1), 2);
        due("peer 0", desk.object(0, 2), 0);
        due("peer 1", desk.object(0, 3), 66);
        due("one is withdrawn", desk.object(1, 0), REFUSED);
        due("tick(0)", desk.tick(0), 0);
        due("one ends late", desk.tick(60), 1);
        due("time", desk.count(0), 125);
        due("all withdrawn", desk.count(2), 2);
    }

    private static void bind() {
        LeaseDesk desk = new LeaseDesk();
        due("not there", desk.bind(0, 0, false), GONE);
        due("name -1", desk.bind(-1, 0, true), REFUSED);
        due("name 6", desk.bind(6, 0, true), REFUSED);
        due("object -1", desk.bind(0, -1, true), REFUSED);
        due("object 10", desk.bind(0, 10, true), REFUSED);
        due("export", desk.export(COUNTER), 0);
        due("export", desk.export(VAULT), 1);
        due("bind", desk.bind(0, 0, false), DONE);
        due("bind the last name", desk.bind(5, 0, true), DONE);
        due("names", desk.object(0, 5), 2);
        due("held", desk.object(0, 1), 1);
        due("bound", desk.bind(0, 1, false), REFUSED);
        due("bound, not there", desk.bind(0, 2, false), GONE);
        due("bound over, not there", desk.bind(0, 2, true), GONE);
        due("still", desk.lookup(0), 0);
        due("over", desk.bind(0, 1, true), DONE);
        due("now", desk.lookup(0), 1);
        due("names", desk.object(0, 5), 1);
        due("both there", desk.count(1), 2);
        due("over itself", desk.bind(5, 0, true), DONE);
        due("both there", desk.count(1), 2);
        due("over the last name", desk.bind(5, 1, true), DONE);
        due("one there", desk.count(1), 1);
        due("withdrawn", desk.count(2), 1);
        due("gone", desk.object(0, 0), REFUSED);
    }

    private static void unbindAndLookup() {
        LeaseDesk desk = new LeaseDesk();
        due("unbind(-1)", desk.unbind(-1), REFUSED);
        due("unbind(6)", desk.unbind(6), REFUSED);
        due("lookup(-1)", desk.lookup(-1), REFUSED);
        due("lookup(6)", desk.lookup(6), REFUSED);
        due("not bound", desk.unbind(2), REFUSED);
        for (int number = 0; number < 10; number++) {
            due("export", desk.export(COUNTER), number);
        }
        for (int name = 0; name < 6; name++) {
            due("bind", desk.bind(name, 9 - name, false), DONE);
        }
        for (int name = 0; name < 6; name++) {
            due("lookup", desk.lookup(name), 9 - name);
        }
        due("bind", desk.bind(0, 8, true), DONE);
        due("unbind one of two names", desk.unbind(1), DONE);
        due("it stays", desk.object(8, 0), COUNTER);
        due("lookup", desk.lookup(1), REFUSED);
        due("unbind again", desk.unbind(1), REFUSED);
        due("unbind the other", desk.unbind(0), DONE);
        due("it is gone", desk.object(8, 0), REFUSED);
        due("withdrawn", desk.count(2), 2);
    }

    private static void callRefusals() {
        LeaseDesk desk = deskWith(COUNTER);
        gives(desk, 0, PUT, 3, 0, 0);
        gives(desk, 0, GET, 0, 0, 3);
        due("peer -1", desk.call(-1, 0, GET, 0), REFUSED);
        due("peer 3", desk.call(3, 0, GET, 0), REFUSED);
        due("object -1", desk.call(0, -1, GET, 0), REFUSED);
        due("object 10", desk.call(0, 10, GET, 0), REFUSED);
        due("method -1", desk.call(0, 0, -1, 0), REFUSED);
        due("method 6", desk.call(0, 0, 6, 0), REFUSED);
        due("numbers come first", desk.call(1, 5, 6, 0), REFUSED);
        due("no lease", desk.call(1, 0, PUT, ab(8, 0)), GONE);
        due("not there", desk.call(0, 1, GET, 0), GONE);
        due("the outcome stays", desk.value(), 3);
        gives(desk, 0, GET, 0, 0, 3);
        fails(desk, 0, USE, 0, 0, NO_METHOD, 0);
        due("no lease", desk.call(2, 0, GET, 0), GONE);
        due("refused", desk.call(0, 0, 6, 0), REFUSED);
        due("the outcome stays", desk.failure(0, 0), NO_METHOD);
        due("failed calls", desk.count(3), 1);
    }

    private static void counter() {
        LeaseDesk desk = deskWith(COUNTER);
        gives(desk, 0, GET, 9, 9, 0);
        gives(desk, 0, PUT, -7, 99, 0);
        gives(desk, 0, PUT, -7, 99, -7);
        gives(desk, 0, DIV, 2, 0, -3);
        gives(desk, 0, DIV, -2, 0, 3);
        gives(desk, 0, GET, 0, 0, -7);
        fails(desk, 0, DIV, 0, 5, ARITHMETIC, 0);
        gives(desk, 0, ADD, 10, 77, 3);
        gives(desk, 0, ADD, MOST - 3, 0, MOST);
        fails(desk, 0, ADD, 1, 0, ARITHMETIC, 0);
        gives(desk, 0, GET, 0, 0, MOST);
        gives(desk, 0, PUT, LEAST, 0, MOST);
        fails(desk, 0, ADD, -1, 0, ARITHMETIC, 0);
        gives(desk, 0, GET, 0, 0, LEAST);
        gives(desk, 0, DIV, -1, 0, LEAST);
        gives(desk, 0, DIV, 1, 0, LEAST);
        gives(desk, 0, ADD, MOST, 0, -1);
        fails(desk, 0, USE, 0, 0, NO_METHOD, 0);
        wake(desk);
    }

    private static void vault() {
        LeaseDesk desk = deskWith(VAULT);
        for (int cell = 0; cell < 4; cell++) {
            gives(desk, 0, GET, cell, 9, 0);
            gives(desk, 0, PUT, cell, cell + 10, 0);
        }
        for (int cell = 0; cell < 4; cell++) {
            gives(desk, 0, PUT, cell, 5, cell + 10);
        }
        for (int method = GET; method <= ADD; method++) {
            fails(desk, 0, method, -1, 1, INDEX, 0);
            fails(desk, 0, method, 4, 1, INDEX, 0);
            fails(desk, 0, method, LEAST, 1, INDEX, 0);
        }
        gives(desk, 0, ADD, 3, -5, 0);
        fails(desk, 0, ADD, 3, -1, SHORT, -1);
        gives(desk, 0, GET, 3, 0, 0);
        gives(desk, 0, ADD, 3, MOST, MOST);
        fails(desk, 0, ADD, 3, 1, SHORT, LEAST);
        gives(desk, 0, PUT, 3, LEAST, MOST);
        gives(desk, 0, ADD, 3, LEAST, 0);
        gives(desk, 0, PUT, 2, -9, 5);
        fails(desk, 0, ADD, 2, 8, SHORT, -1);
        gives(desk, 0, GET, 2, 0, -9);
        gives(desk, 0, ADD, 2, 9, 0);
        gives(desk, 0, GET, 1, 0, 5);
        fails(desk, 0, DIV, 9, 0, NO_METHOD, 0);
        fails(desk, 0, USE, 0, 0, NO_METHOD, 0);
        wake(desk);
    }

    private static void bracket() {
        LeaseDesk desk = deskWith(BRACKET);
        gives(desk, 0, GET, 1, 1, 0);
        gives(desk, 0, USE, 8, MOST, LEAST + 7);
        gives(desk, 0, GET, 0, 0, 2);
        fails(desk, 0, USE, 1, -6, BODY, -6);
        suppressedAre(desk, 0);
        fails(desk, 0, USE, 3, 6, BODY, 6);
        suppressedAre(desk, 0, 2);
        fails(desk, 0, USE, 5, 6, BODY, 6);
        suppressedAre(desk, 0, 1);
        fails(desk, 0, USE, -1, LEAST, BODY, LEAST);
        suppressedAre(desk, 0, 2, 1);
        gives(desk, 0, GET, 0, 0, 10);
        fails(desk, 0, USE, 2, 6, CLOSE, 2);
        suppressedAre(desk, 0);
        fails(desk, 0, USE, 4, 6, CLOSE, 1);
        suppressedAre(desk, 0);
        fails(desk, 0, USE, 6, 6, CLOSE, 2);
        suppressedAre(desk, 0, 1);
        gives(desk, 0, USE, -8, 3, -5);
        gives(desk, 0, GET, 0, 0, 18);
        fails(desk, 0, PUT, 0, 0, NO_METHOD, 0);
        fails(desk, 0, ADD, 0, 0, NO_METHOD, 0);
        fails(desk, 0, DIV, 0, 0, NO_METHOD, 0);
        gives(desk, 0, GET, 0, 0, 18);
        wake(desk);
    }

    private static void wake(LeaseDesk desk) {
        gives(desk, 0, WAKE, 1, LEAST, LEAST);
        gives(desk, 0, WAKE, -3, 4, 4);
        fails(desk, 0, WAKE, 0, 4, MONITOR, 0);
        fails(desk, 0, WAKE, -2, 4, MONITOR, 0);
    }

    private static void chainWithoutTarget() {
        LeaseDesk desk = deskWith(CHAIN);
        fails(desk, 0, GET, 0, 0, NULL, 0);
        fails(desk, 0, ADD, 0, 0, NULL, 0);
        fails(desk, 0, DIV, 0, 0, NULL, 0);
        gives(desk, 0, PUT, 10, 0, 0);
        fails(desk, 0, USE, 0, 0, NULL, 0);
        gives(desk, 0, PUT, LEAST, 0, 1);
        gives(desk, 0, PUT, 9, 0, 1);
        fails(desk, 0, GET, 0, 0, NULL, 0);
        wake(desk);
    }

    private static void chainOfCounter() {
        LeaseDesk desk = deskWith(CHAIN, COUNTER);
        gives(desk, 0, PUT, 1, 0, 0);
        gives(desk, 1, PUT, 20, 0, 0);
        gives(desk, 0, GET, 0, 0, 20);
        gives(desk, 0, ADD, 3, 0, 23);
        fails(desk, 0, ADD, MOST, 0, FORWARD, 2, ARITHMETIC, 0);
        gives(desk, 0, USE, MOST, 0, -1);
        gives(desk, 1, GET, 0, 0, 23);
        gives(desk, 0, USE, 2, 0, 25);
        fails(desk, 0, DIV, 5, 0, FORWARD, 3, NO_METHOD, 0);
        gives(desk, 0, PUT, 1, 0, 2);
        gives(desk, 0, WAKE, 7, 8, 8);
    }

    private static void chainOfVault() {
        LeaseDesk desk = deskWith(CHAIN, VAULT);
        gives(desk, 0, PUT, 1, 0, 0);
        gives(desk, 0, ADD, 2, 5, 5);
        gives(desk, 0, GET, 2, 0, 5);
        fails(desk, 0, GET, 4, 0, FORWARD, 0, INDEX, 0);
        fails(desk, 0, ADD, 2, -9, FORWARD, 2, SHORT, -4);
        gives(desk, 0, USE, 2, 1, 6);
        gives(desk, 0, USE, 2, -9, 6);
        gives(desk, 1, GET, 2, 0, -9);
        gives(desk, 0, USE, 4, -9, -1);
        fails(desk, 0, DIV, 0, 0, FORWARD, 3, NO_METHOD, 0);
        gives(desk, 0, PUT, 1, 0, 3);
    }

    private static void chainOfBracket() {
        LeaseDesk desk = deskWith(CHAIN, BRACKET);
        gives(desk, 0, PUT, 1, 0, 0);
        fails(desk, 0, ADD, 0, 0, FORWARD, 2, NO_METHOD, 0);
        fails(desk, 0, USE, 0, 0, NO_METHOD, 0);
        gives(desk, 0, DIV, 8, 1, 9);
        gives(desk, 0, GET, 0, 0, 2);
        fails(desk, 0, DIV, 7, 13, FORWARD, 3, BODY, 13);
        suppressedAre(desk, 0);
        suppressedAre(desk, 1, 2, 1);
        fails(desk, 0, DIV, 6, 13, FORWARD, 3, CLOSE, 2);
        suppressedAre(desk, 1, 1);
        gives(desk, 0, PUT, 1, 0, 1);
    }

    private static void chainOfChain() {
        LeaseDesk desk = deskWith(CHAIN, CHAIN, VAULT);
        gives(desk, 0, PUT, 1, 0, 0);
        fails(desk, 0, GET, 0, 0, FORWARD, 0, NULL, 0);
        fails(desk, 0, DIV, 0, 0, FORWARD, 3, NULL, 0);
        fails(desk, 0, USE, 0, 0, NULL, 0);
        gives(desk, 1, PUT, 2, 0, 1);
        gives(desk, 0, PUT, 1, 0, 1);
        gives(desk, 0, DIV, 1, -4, 0);
        gives(desk, 0, GET, 1, 0, -4);
        gives(desk, 0, DIV, 7, 0, -1);
        fails(desk, 0, ADD, 1, 0, FORWARD, 2, FORWARD, 2, SHORT, -4);
        fails(desk, 0, USE, 1, 0, FORWARD, 2, SHORT, -4);
        fails(desk, 0, USE, 7, 0, FORWARD, 2, INDEX, 0);
        gives(desk, 1, PUT, 2, 0, 3);
        gives(desk, 0, PUT, 1, 0, 3);
    }

    private static void depth() {
        LeaseDesk desk = deskWith(CHAIN, CHAIN, CHAIN, CHAIN, CHAIN, COUNTER);
        for (int chain = 0; chain < 5; chain++) {
            gives(desk, chain, PUT, chain + 1, 0, 0);
        }
        gives(desk, 1, ADD, 6, 0, 6);
        gives(desk, 1, GET, 0, 0, 6);
        fails(desk, 0, GET, 0, 0, FORWARD, 0, FORWARD, 0, FORWARD, 0, FORWARD, 0, FORWARD, 0, DEEP, 5);
        fails(desk, 0, ADD, 1, 0, FORWARD, 2, FORWARD, 2, FORWARD, 2, FORWARD, 2, FORWARD, 2, DEEP, 5);
        fails(desk, 0, USE, 1, 0, FORWARD, 2, FORWARD, 2, FORWARD, 2, FORWARD, 2, DEEP, 5);
        fails(desk, 0, DIV, 1, 0, FORWARD, 3, FORWARD, 2, FORWARD, 2, FORWARD, 2, DEEP, 5);
        gives(desk, 5, GET, 0, 0, 6);
        gives(desk, 1, USE, 1, 0, 7);
        gives(desk, 1, PUT, 2, 0, 2);
        gives(desk, 0, PUT, 0, 0, 1);
        fails(desk, 0, DIV, 1, 0, FORWARD, 3, FORWARD, 2, FORWARD, 2, FORWARD, 2, DEEP, 5);
        gives(desk, 0, PUT, 0, 0, 2);
    }

    private static void valueAndFailures() {
        LeaseDesk desk = deskWith(BRACKET, CHAIN);
        gives(desk, 1, PUT, 0, 0, 0);
        gives(desk, 0, USE, 0, LEAST, LEAST);
        due("no failure of a value", desk.failure(0, 1), REFUSED);
        due("none suppressed", desk.suppressed(0, 0), REFUSED);
        due("none suppressed", desk.suppressedMessage(0, 0), NONE_SUCH);
        fails(desk, 1, DIV, 7, -1, FORWARD, 3, BODY, -1);
        due("value", desk.value(), 0);
        for (int k : new int[] {-1, 2, LEAST, MOST}) {
            for (int what = 0; what < 3; what++) {
                due("failure " + k, desk.failure(k, what), REFUSED);
            }
            due("suppressed " + k, desk.suppressed(k, 0), REFUSED);
            due("suppressedMessage " + k, desk.suppressedMessage(k, 0), NONE_SUCH);
        }
        for (int j : new int[] {-1, 2, LEAST, MOST}) {
            due("what " + j, desk.failure(1, j == 2 ? 3 : j), REFUSED);
            due("suppressed " + j, desk.suppressed(1, j), REFUSED);
            due("suppressedMessage " + j, desk.suppressedMessage(1, j), NONE_SUCH);
        }
        gives(desk, 0, GET, 0, 0, 4);
        due("the failure is over", desk.failure(1, 0), REFUSED);
        due("its suppressed ones too", desk.suppressed(1, 0), REFUSED);
    }

    private static void outcomeOutlivesItsObject() {
        LeaseDesk desk = deskWith(BRACKET);
        fails(desk, 0, USE, 3, 4, BODY, 4);
        due("tick", desk.tick(50), 1);
        due("withdrawn", desk.count(1), 0);
        due("gone", desk.call(0, 0, GET, 0), GONE);
        due("message", desk.failure(0, 1), 4);
        suppressedAre(desk, 0, 2);
    }

    private static void objectAndCount() {
        LeaseDesk desk = deskWith(VAULT, CHAIN);
        due("kind", desk.object(0, 0), VAULT);
        due("kind", desk.object(1, 0), CHAIN);
        due("lease", desk.lease(2, 0, 1, 8), 8);
        due("peer 0", desk.object(0, 2), 50);
        due("peer 1", desk.object(0, 3), 0);
        due("peer 2", desk.object(0, 4), 8);
        due("object -1", desk.object(-1, 1), REFUSED);
        due("object 10", desk.object(10, 1), REFUSED);
        for (int what : new int[] {-1, 6, LEAST, MOST}) {
            due("what " + what, desk.object(0, what), REFUSED);
            due("what of none there " + what, desk.object(5, what), REFUSED);
            due("count " + what, desk.count(what == 6 ? 4 : what), REFUSED);
        }
        due("export", desk.export(COUNTER), 2);
        due("not held", desk.object(2, 1), 0);
        gives(desk, 1, PUT, 2, 0, 0);
        due("held by a chain", desk.object(2, 1), 1);
        due("no names", desk.object(2, 5), 0);
        due("there", desk.count(1), 3);
        fails(desk, 1, GET + DIV, 0, 0, FORWARD, 3, NO_METHOD, 0);
        due("one failed call, though two failures", desk.count(3), 1);
        gives(desk, 1, USE, 1, 0, 1);
        due("a value is no failure", desk.count(3), 1);
        due("tick", desk.tick(50), 3);
        due("time", desk.count(0), 50);
        due("there", desk.count(1), 0);
        due("withdrawn", desk.count(2), 3);
    }

    private static void withdrawingByChains() {
        LeaseDesk desk = deskWith(COUNTER, CHAIN, CHAIN, CHAIN);
        gives(desk, 3, PUT, 2, 0, 0);
        gives(desk, 2, PUT, 1, 0, 0);
        gives(desk, 1, PUT, 0, 0, 0);
        for (int number = 0; number < 3; number++) {
            due("release", desk.release(0, number, 2), 1);
        }
        due("a chain holds each", desk.count(1), 4);
        due("a second chain", desk.export(CHAIN), 4);
        due("lease", desk.lease(0, 4, 1, 50), 50);
        gives(desk, 4, PUT, 0, 0, 0);
        due("the row falls", desk.release(0, 3, 2), 1);
        due("but for what another holds", desk.count(1), 2);
        due("withdrawn", desk.count(2), 3);
        due("export", desk.export(VAULT), 1);
        gives(desk, 4, PUT, 1, 0, 0);
        due("a target left behind", desk.object(0, 0), REFUSED);
        gives(desk, 4, PUT, 1, 0, 0);
        due("the same target stays", desk.object(1, 0), VAULT);
        gives(desk, 4, PUT, 4, 0, 0);
        due("its own target", desk.release(0, 4, 2), 1);
        due("holds itself", desk.object(4, 1), 1);
        due("there", desk.count(1), 1);
    }

    private static void ringsStayTillCut() {
        LeaseDesk desk = deskWith(CHAIN, CHAIN, VAULT);
        gives(desk, 0, PUT, 1, 0, 0);
        gives(desk, 1, PUT, 0, 0, 0);
        due("tick", desk.tick(50), 3);
        due("the ring stays", desk.count(1), 2);
        due("sequences stay", desk.lease(0, 0, 1, 5), REFUSED);
        due("lease", desk.lease(0, 0, 2, 5), 55);
        gives(desk, 0, PUT, 2, 0, 0);
        due("cut, and its other half is gone", desk.count(1), 1);
        due("release", desk.release(0, 0, 3), 1);
        due("gone", desk.count(1), 0);
        due("withdrawn", desk.count(2), 3);
    }

    private static void constants() {
        due("DONE", LeaseDesk.DONE, 0);
        due("REFUSED", LeaseDesk.REFUSED, -1);
        due("FULL", LeaseDesk.FULL, -2);
        due("GONE", LeaseDesk.GONE, -3);
        due("FAILED", LeaseDesk.FAILED, -4);
    }

    private static void allPromises() {
        part = "promise 1"; newObject();
        part = "promise 2"; export();
        part = "promise 2, anew"; exportMakesAnew();
        part = "promise 3"; lease();
        part = "promise 4"; release();
        part = "promise 5"; tick();
        part = "promise 6"; bind();
        part = "promises 7 and 8"; unbindAndLookup();
        part = "promise 9, refusals"; callRefusals();
        part = "promise 9, counter"; counter();
        part = "promise 9, vault"; vault();
        part = "promises 9, 12 and 13, bracket"; bracket();
        part = "promise 9, chain without target"; chainWithoutTarget();
        part = "promise 9, chain of counter"; chainOfCounter();
        part = "promise 9, chain of vault"; chainOfVault();
        part = "promise 9, chain of bracket"; chainOfBracket();
        part = "promise 9, chain of chain"; chainOfChain();
        part = "promise 9, depth"; depth();
        part = "promises 10 to 13"; valueAndFailures();
        part = "promises 10 to 13, later"; outcomeOutlivesItsObject();
        part = "promises 14 and 15"; objectAndCount();
        part = "withdrawing by chains"; withdrawingByChains();
        part = "withdrawing of rings"; ringsStayTillCut();
        part = "constants"; constants();
    }

    public static void main(String[] args) {
        allPromises();
        end();
    }
}
