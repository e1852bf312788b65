/**
 * The section 'Terms' of the document, sentence by sentence, but for what it says of KINDS' METHODS (see MethodsTest):
 * what is there at first, HELD and WITHDRAWN, OUTCOME and FAILURES, and that numbers are tested first.
 */
public final class TermsTest extends Checks {
    @Says("An object is used for at most 512 calls after it has been made")
    private static void all512CallsHold() {
        LeaseDesk desk = new LeaseDesk();
        for (int call = 1; call <= 511; call++) {
            due("tick", desk.tick(60), 0);
        }
        due("call 512", desk.count(0), 511 * 60);
    }

    @Says("An object is used for at most 512 calls after it has been made")
    private static void aCounterCountsToTheLastCall() {
        LeaseDesk desk = unheld(COUNTER);
        due("lease", desk.lease(2, 0, 1, 50), 50);
        for (int call = 3; call <= 511; call++) {
            due("add", desk.call(2, 0, ADD, ab(1, 0)), DONE);
        }
        due("call 512", desk.value(), 509);
    }

    @Says("An object is used for at most 512 calls after it has been made")
    private static void failuresCountToTheLastCall() {
        LeaseDesk desk = deskWith(CHAIN);
        due("target itself", desk.call(0, 0, PUT, 0), DONE);
        for (int call = 4; call <= 511; call++) {
            due("use", desk.call(0, 0, USE, 0), FAILED);
        }
        due("call 512", desk.count(3), 508);
    }

    @Says("OBJECTS have numbers 0 .. 9; there are some of them at any time (none at first).")
    private static void objectsHaveNumbers0To9() {
        LeaseDesk desk = new LeaseDesk();
        due("there at first", desk.count(1), 0);
        for (int number = 0; number <= 9; number++) {
            isGone(desk, number);
            due("export", desk.export(COUNTER), number);
            isThere(desk, number, COUNTER);
            due("lease", desk.lease(0, number, 1, 1), 1);
        }
        due("object -1", desk.lease(0, -1, 1, 1), REFUSED);
        due("object 10", desk.lease(0, 10, 1, 1), REFUSED);
    }

    @Says("0 COUNTER: a value (0 at first).")
    private static void counterIs0AtFirst() {
        LeaseDesk desk = deskWith(COUNTER);
        isThere(desk, 0, COUNTER);
        gives(desk, 0, GET, 0, 0, 0);
    }

    @Says("1 VAULT: cells 0 .. 3 (0 at first).")
    private static void vaultCellsAre0AtFirst() {
        LeaseDesk desk = deskWith(VAULT);
        isThere(desk, 0, VAULT);
        for (int cell = 0; cell <= 3; cell++) {
            gives(desk, 0, GET, cell, 0, 0);
        }
    }

    @Says("2 CHAIN: a target, an object or none (none at first), and a number of uses (0 at first).")
    private static void chainHasNoTargetAndNoUsesAtFirst() {
        LeaseDesk desk = deskWith(CHAIN, CHAIN);
        isThere(desk, 0, CHAIN);
        fails(desk, 0, GET, 0, 0, NULL, 0);
        fails(desk, 1, GET, 0, 0, NULL, 0);
        gives(desk, 0, PUT, 1, 0, 0);
    }

    @Says("3 BRACKET: a number of closings (0 at first).")
    private static void bracketHasNoClosingsAtFirst() {
        LeaseDesk desk = deskWith(BRACKET);
        isThere(desk, 0, BRACKET);
        gives(desk, 0, GET, 0, 0, 0);
    }

    @Says("a value (0 at first)")
    private static void anewUnderTheNumberOfOneWithdrawn() {
        LeaseDesk desk = deskWith(COUNTER, VAULT, CHAIN, BRACKET);
        gives(desk, 0, PUT, 4, 0, 0);
        gives(desk, 1, PUT, 3, 4, 0);
        gives(desk, 2, PUT, 2, 0, 0);
        fails(desk, 2, USE, 0, 0, FORWARD, ADD, FORWARD, ADD, FORWARD, ADD, FORWARD, ADD, DEEP, 5);
        gives(desk, 2, PUT, -1, 0, 1);
        gives(desk, 3, USE, 0, 0, 0);
        due("all end", desk.tick(50), 4);
        for (int kind = 0; kind < 4; kind++) {
            due("export", desk.export(kind), kind);
            due("not held", desk.object(kind, 1), 0);
            due("lease", desk.lease(0, kind, 1, 50), 100);
        }
        gives(desk, 0, GET, 0, 0, 0);
        gives(desk, 1, GET, 3, 0, 0);
        fails(desk, 2, GET, 0, 0, NULL, 0);
        gives(desk, 2, PUT, -1, 0, 0);
        gives(desk, 3, GET, 0, 0, 0);
    }

    @Says("All values are ints.")
    private static void valuesReachTheEdgesOfInt() {
        LeaseDesk desk = deskWith(COUNTER);
        gives(desk, 0, PUT, LEAST, MOST, 0);
        gives(desk, 0, PUT, MOST, LEAST, LEAST);
        gives(desk, 0, PUT, -1, 0, MOST);
        gives(desk, 0, PUT, 0, -1, -1);
        gives(desk, 0, GET, 0, 0, 0);
    }

    @Says("TIME is 0 at first.")
    private static void timeIs0AtFirst() {
        LeaseDesk desk = unheld(COUNTER);
        due("time", desk.count(0), 0);
        due("lease from time 0", desk.lease(0, 0, 1, 1), 1);
    }

    @Says("PEERS 0 .. 2 have for each object a LEASE or none")
    private static void eachPeerHasItsOwnLeaseOfEachObject() {
        LeaseDesk desk = unheld(COUNTER, VAULT);
        due("lease", desk.lease(0, 0, 1, 10), 10);
        due("lease", desk.lease(2, 0, 1, 12), 12);
        due("lease", desk.lease(1, 1, 1, 21), 21);
        int[][] tills = {{10, 0, 12}, {0, 21, 0}};
        for (int object = 0; object < 2; object++) {
            for (int peer = 0; peer <= 2; peer++) {
                due("till", desk.object(object, 2 + peer), tills[object][peer]);
            }
        }
    }

    @Says("and a SEQUENCE (0 at first")
    private static void eachPeerHasItsOwnSequenceForEachObject() {
        LeaseDesk desk = unheld(COUNTER, VAULT);
        for (int object = 0; object < 2; object++) {
            for (int peer = 0; peer <= 2; peer++) {
                due("0 is not above 0", desk.lease(peer, object, 0, 5), REFUSED);
                due("1 is above 0", desk.lease(peer, object, 1, 5), 5);
                due("1 is not above 1", desk.lease(peer, object, 1, 5), REFUSED);
                due("a high one", desk.lease(peer, object, 1000, 5), 5);
            }
        }
    }

    @Says("and 0 again when an object is exported under the number")
    private static void sequencesAre0AgainUnderTheNumber() {
        LeaseDesk desk = unheld(COUNTER, COUNTER);
        due("lease", desk.lease(0, 1, MOST, 5), 5);
        due("released in vain", desk.release(1, 1, 70), 0);
        due("lease", desk.lease(2, 1, 80, 5), 5);
        due("another object's", desk.lease(2, 0, 90, 5), 5);
        due("tick", desk.tick(4), 0);
        due("held on", desk.lease(2, 0, 91, 5), 9);
        due("tick", desk.tick(1), 2);
        due("exported again", desk.export(VAULT), 1);
        for (int peer = 0; peer <= 2; peer++) {
            due("0 is not above", desk.lease(peer, 1, 0, 5), REFUSED);
            due("1 is above", desk.lease(peer, 1, 1, 5), 10);
        }
        due("the other object's stays", desk.lease(2, 0, 91, 5), REFUSED);
    }

    @Says("NAMES 0 .. 5 are bound to an object or not.")
    private static void sixNames() {
        LeaseDesk desk = unheld(COUNTER);
        for (int name = 0; name <= 5; name++) {
            due("not bound", desk.lookup(name), REFUSED);
            due("bind", desk.bind(name, 0, false), DONE);
            due("bound", desk.lookup(name), 0);
            due("names", desk.object(0, 5), name + 1);
        }
    }

    @Says("An object is HELD if a name is bound to it")
    private static void heldByAName() {
        for (int name = 0; name <= 5; name++) {
            LeaseDesk desk = unheld(COUNTER, COUNTER);
            due("not yet", desk.object(1, 1), 0);
            due("bind", desk.bind(name, 1, false), DONE);
            due("held", desk.object(1, 1), 1);
            due("not the other", desk.object(0, 1), 0);
            due("long after", desk.tick(60), 0);
            isThere(desk, 1, COUNTER);
        }
    }

    @Says("a peer has a LEASE of it")
    private static void heldByALease() {
        for (int peer = 0; peer <= 2; peer++) {
            LeaseDesk desk = unheld(COUNTER, COUNTER);
            due("lease", desk.lease(peer, 1, 1, 3), 3);
            due("held", desk.object(1, 1), 1);
            due("not the other", desk.object(0, 1), 0);
            due("one before", desk.tick(2), 0);
            due("held", desk.object(1, 1), 1);
            due("end", desk.tick(1), 1);
            isGone(desk, 1);
            isThere(desk, 0, COUNTER);
        }
    }

    @Says("or a CHAIN that is there (it may be itself) has it as target")
    private static void heldByAChain() {
        LeaseDesk desk = unheld(CHAIN, COUNTER);
        due("lease", desk.lease(0, 0, 1, 50), 50);
        due("not yet", desk.object(1, 1), 0);
        gives(desk, 0, PUT, 1, 0, 0);
        due("held", desk.object(1, 1), 1);
        due("no name", desk.object(1, 5), 0);
        due("tick", desk.tick(49), 0);
        isThere(desk, 1, COUNTER);
    }

    @Says("(it may be itself)")
    private static void heldByItself() {
        LeaseDesk desk = deskWith(CHAIN);
        gives(desk, 0, PUT, 0, 0, 0);
        due("the lease ends", desk.tick(50), 1);
        isThere(desk, 0, CHAIN);
        due("held", desk.object(0, 1), 1);
        due("again", desk.lease(0, 0, 2, 5), 55);
        gives(desk, 0, PUT, 9, 0, 0);
        due("the lease ends", desk.release(0, 0, 3), 1);
        isGone(desk, 0);
        due("withdrawn", desk.count(2), 1);
    }

    @Says("An object that was HELD at some time since it was exported and is HELD no more is WITHDRAWN")
    private static void neverHeldIsNotWithdrawn() {
        LeaseDesk desk = unheld(COUNTER, VAULT, CHAIN, BRACKET);
        due("tick", desk.tick(60), 0);
        due("release in vain", desk.release(1, 0, 5), 0);
        due("refused lease", desk.lease(1, 1, 0, 5), REFUSED);
        due("refused bind", desk.bind(6, 2, true), REFUSED);
        due("gone call", desk.call(0, 3, GET, 0), GONE);
        due("another comes", desk.export(COUNTER), 4);
        due("and is bound", desk.bind(0, 4, false), DONE);
        due("and goes", desk.unbind(0), DONE);
        due("tick", desk.tick(0), 0);
        due("there", desk.count(1), 4);
        due("withdrawn", desk.count(2), 1);
    }

    @Says("An object that was HELD at some time since it was exported and is HELD no more is WITHDRAWN")
    private static void withdrawnWhenTheLastHolderGoes() {
        LeaseDesk desk = unheld(CHAIN, VAULT);
        due("lease of the chain", desk.lease(0, 0, 1, 50), 50);
        gives(desk, 0, PUT, 1, 0, 0);
        due("bind", desk.bind(3, 1, false), DONE);
        due("bind", desk.bind(4, 1, false), DONE);
        due("lease", desk.lease(1, 1, 1, 20), 20);
        due("lease", desk.lease(2, 1, 1, 20), 20);
        due("release", desk.release(1, 1, 2), 1);
        isThere(desk, 1, VAULT);
        due("unbind", desk.unbind(4), DONE);
        isThere(desk, 1, VAULT);
        gives(desk, 0, PUT, 0, 0, 0);
        isThere(desk, 1, VAULT);
        due("unbind", desk.unbind(3), DONE);
        isThere(desk, 1, VAULT);
        due("still held", desk.object(1, 1), 1);
        due("tick", desk.tick(20), 1);
        isGone(desk, 1);
        due("withdrawn", desk.count(2), 1);
    }

    @Says("since it was exported")
    private static void heldUnderTheNumberBeforeDoesNotCount() {
        LeaseDesk desk = deskWith(COUNTER);
        due("release", desk.release(0, 0, 2), 1);
        isGone(desk, 0);
        due("export", desk.export(COUNTER), 0);
        due("tick", desk.tick(60), 0);
        isThere(desk, 0, COUNTER);
        due("withdrawn", desk.count(2), 1);
    }

    @Says("it is there no more")
    private static void whatIsWithdrawnIsThereNoMore() {
        LeaseDesk desk = deskWith(VAULT, CHAIN);
        due("release", desk.release(0, 0, 2), 1);
        isGone(desk, 0);
        for (int what = 1; what <= 5; what++) {
            due("what " + what, desk.object(0, what), 0);
        }
        due("there", desk.count(1), 1);
        due("lease", desk.lease(0, 0, 3, 5), GONE);
        due("release", desk.release(0, 0, 3), GONE);
        due("bind", desk.bind(0, 0, true), GONE);
        due("call", desk.call(0, 0, GET, 0), GONE);
        gives(desk, 1, PUT, 0, 0, 0);
        fails(desk, 1, GET, 0, 0, NULL, 0);
        due("its number is free", desk.export(COUNTER), 0);
        fails(desk, 1, GET, 0, 0, NULL, 0);
    }

    /** Ten chains, each with the next as target in the row of numbers given; only the first is leased at the end. */
    private static LeaseDesk rowOfTen(int[] row) {
        LeaseDesk desk = new LeaseDesk();
        for (int number = 0; number < 10; number++) {
            due("export", desk.export(CHAIN), number);
            due("lease", desk.lease(0, number, 1, 50), 50);
        }
        for (int i = 0; i < 9; i++) {
            gives(desk, row[i], PUT, row[i + 1], 0, 0);
        }
        for (int i = 1; i < 10; i++) {
            due("release", desk.release(0, row[i], 2), 1);
        }
        due("each is held", desk.count(1), 10);
        return desk;
    }

    @Says("what it held as target is then looked at likewise, and so on, until none is to be WITHDRAWN")
    private static void aRowOfTenFallsInOneCall() {
        int[][] rows = {
            {0, 1, 2, 3, 4, 5, 6, 7, 8, 9}, {9, 8, 7, 6, 5, 4, 3, 2, 1, 0}, {5, 0, 9, 1, 8, 2, 7, 3, 6, 4}
        };
        for (int[] row : rows) {
            LeaseDesk desk = rowOfTen(row);
            due("release", desk.release(0, row[0], 2), 1);
            due("none there", desk.count(1), 0);
            due("all withdrawn", desk.count(2), 10);
            due("the numbers are free", desk.export(COUNTER), 0);
        }
    }

    @Says("what it held as target is then looked at likewise")
    private static void aTargetThatIsHeldOtherwiseStays() {
        LeaseDesk desk = deskWith(CHAIN, CHAIN, COUNTER, CHAIN);
        gives(desk, 0, PUT, 1, 0, 0);
        gives(desk, 1, PUT, 2, 0, 0);
        gives(desk, 3, PUT, 2, 0, 0);
        due("release", desk.release(0, 1, 2), 1);
        due("release", desk.release(0, 2, 2), 1);
        due("the head goes", desk.release(0, 0, 2), 1);
        isGone(desk, 0);
        isGone(desk, 1);
        isThere(desk, 2, COUNTER);
        due("held by the other chain", desk.object(2, 1), 1);
        due("bind", desk.bind(5, 2, false), DONE);
        due("the other chain goes", desk.release(0, 3, 2), 1);
        isGone(desk, 3);
        isThere(desk, 2, COUNTER);
        due("unbind", desk.unbind(5), DONE);
        isGone(desk, 2);
        due("withdrawn", desk.count(2), 4);
    }

    @Says("or a CHAIN that is there")
    private static void aRingHoldsItselfAndItsTail() {
        LeaseDesk desk = deskWith(CHAIN, CHAIN, CHAIN, COUNTER);
        gives(desk, 0, PUT, 1, 0, 0);
        gives(desk, 1, PUT, 2, 0, 0);
        gives(desk, 2, PUT, 0, 0, 0);
        due("all leases end", desk.tick(50), 4);
        isGone(desk, 3);
        due("the ring is there", desk.count(1), 3);
        due("export", desk.export(COUNTER), 3);
        due("lease", desk.lease(0, 1, 2, 10), 60);
        gives(desk, 1, PUT, 3, 0, 0);
        due("the rest of the ring went", desk.count(1), 2);
        isThere(desk, 1, CHAIN);
        isThere(desk, 3, COUNTER);
        due("the last lease", desk.tick(10), 1);
        due("none there", desk.count(1), 0);
        due("withdrawn", desk.count(2), 5);
    }

    @Says("This is done at the end of each call.")
    private static void withdrawnAtTheEndOfRelease() {
        LeaseDesk desk = deskWith(COUNTER);
        due("release", desk.release(0, 0, 2), 1);
        due("withdrawn", desk.count(2), 1);
    }

    @Says("This is done at the end of each call.")
    private static void withdrawnAtTheEndOfTick() {
        LeaseDesk desk = deskWith(COUNTER, CHAIN, COUNTER);
        gives(desk, 1, PUT, 0, 0, 0);
        due("holder and target at once", desk.tick(50), 3);
        due("withdrawn", desk.count(2), 3);
    }

    @Says("This is done at the end of each call.")
    private static void withdrawnAtTheEndOfBind() {
        LeaseDesk desk = unheld(COUNTER, COUNTER);
        due("bind", desk.bind(0, 0, false), DONE);
        due("bind over", desk.bind(0, 1, true), DONE);
        due("withdrawn", desk.count(2), 1);
        isGone(desk, 0);
    }

    @Says("This is done at the end of each call.")
    private static void withdrawnAtTheEndOfUnbind() {
        LeaseDesk desk = unheld(COUNTER);
        due("bind", desk.bind(0, 0, false), DONE);
        due("unbind", desk.unbind(0), DONE);
        due("withdrawn", desk.count(2), 1);
    }

    @Says("This is done at the end of each call.")
    private static void withdrawnAtTheEndOfCall() {
        LeaseDesk desk = unheld(CHAIN, COUNTER, COUNTER);
        due("lease", desk.lease(0, 0, 1, 50), 50);
        gives(desk, 0, PUT, 1, 0, 0);
        gives(desk, 0, PUT, 2, 0, 0);
        isGone(desk, 1);
        isThere(desk, 2, COUNTER);
        gives(desk, 0, PUT, -1, 0, 0);
        isGone(desk, 2);
        due("withdrawn", desk.count(2), 2);
    }

    @Says("This is done at the end of each call.")
    private static void notWithdrawnInTheMiddleOfACall() {
        LeaseDesk desk = unheld(CHAIN, VAULT, COUNTER);
        due("lease", desk.lease(0, 0, 1, 50), 50);
        gives(desk, 0, PUT, 1, 0, 0);
        gives(desk, 0, PUT, 1, 0, 0);
        isThere(desk, 1, VAULT);
        due("bind", desk.bind(2, 2, false), DONE);
        due("bind over to the same", desk.bind(2, 2, true), DONE);
        isThere(desk, 2, COUNTER);
        due("lease anew", desk.lease(0, 0, 2, 1), 1);
        isThere(desk, 0, CHAIN);
        due("withdrawn", desk.count(2), 0);
    }

    @Says("OUTCOME is that of the last call of 'call' that was not GONE: a value, or a failure (at first the value 0).")
    private static void outcomeIsTheValue0AtFirst() {
        LeaseDesk desk = new LeaseDesk();
        due("value", desk.value(), 0);
        due("no failure", desk.failure(0, 0), REFUSED);
        due("gone", desk.call(0, 0, GET, 0), GONE);
        due("value", desk.value(), 0);
        due("no failure", desk.failure(0, 0), REFUSED);
    }

    @Says("OUTCOME is that of the last call of 'call' that was not GONE")
    private static void aGoneCallLeavesTheOutcome() {
        LeaseDesk desk = deskWith(COUNTER);
        gives(desk, 0, PUT, 6, 0, 0);
        gives(desk, 0, GET, 0, 0, 6);
        due("no lease", desk.call(1, 0, GET, 0), GONE);
        due("not there", desk.call(0, 1, GET, 0), GONE);
        same("a value", outcomeOf(desk), "value 6");
        fails(desk, 0, DIV, 0, 0, ARITHMETIC, 0);
        due("no lease", desk.call(1, 0, GET, 0), GONE);
        due("not there", desk.call(0, 1, GET, 0), GONE);
        same("a failure", outcomeOf(desk), "value 0 failure 1 0");
    }

    @Says("OUTCOME is that of the last call of 'call'")
    private static void otherCallsLeaveTheOutcome() {
        LeaseDesk desk = deskWith(BRACKET);
        fails(desk, 0, USE, 7, 12, BODY, 12);
        String before = outcomeOf(desk);
        due("export", desk.export(COUNTER), 1);
        due("lease", desk.lease(1, 0, 1, 5), 5);
        due("bind", desk.bind(0, 1, false), DONE);
        due("lookup", desk.lookup(0), 1);
        due("unbind", desk.unbind(0), DONE);
        due("release", desk.release(1, 0, 2), 1);
        same("the outcome", outcomeOf(desk), before);
        due("its object goes", desk.tick(50), 1);
        due("none there", desk.count(1), 0);
        same("the outcome", outcomeOf(desk), before);
    }

    @Says("OUTCOME is that of the last call of 'call'")
    private static void eachCallHasAnOutcomeOfItsOwn() {
        LeaseDesk desk = deskWith(BRACKET, COUNTER);
        fails(desk, 0, USE, 7, 12, BODY, 12);
        suppressedAre(desk, 0, 2, 1);
        fails(desk, 0, USE, 1, 13, BODY, 13);
        suppressedAre(desk, 0);
        fails(desk, 0, USE, 6, 14, CLOSE, 2);
        suppressedAre(desk, 0, 1);
        gives(desk, 1, GET, 0, 0, 0);
        due("none suppressed", desk.suppressed(0, 0), REFUSED);
        due("none suppressed", desk.suppressedMessage(0, 0), NONE_SUCH);
        gives(desk, 1, PUT, 5, 0, 0);
        gives(desk, 1, GET, 0, 0, 5);
        fails(desk, 1, USE, 0, 0, NO_METHOD, 0);
    }

    @Says("FAILURES of the outcome are numbered: 0 the failure itself, then 1, 2, .. its CAUSE, that one's CAUSE, and so on.")
    private static void failuresAreNumberedAlongTheCauses() {
        LeaseDesk desk = deskWith(CHAIN, CHAIN, CHAIN, BRACKET);
        gives(desk, 0, PUT, 1, 0, 0);
        gives(desk, 1, PUT, 2, 0, 0);
        gives(desk, 2, PUT, 3, 0, 0);
        fails(desk, 2, ADD, 0, 0, FORWARD, ADD, NO_METHOD, 0);
        fails(desk, 1, DIV, 0, 0, FORWARD, DIV, NO_METHOD, 0);
        fails(desk, 0, DIV, 0, 0, FORWARD, DIV, FORWARD, ADD, NO_METHOD, 0);
        fails(desk, 0, ADD, 0, 0, FORWARD, ADD, FORWARD, ADD, FORWARD, ADD, NO_METHOD, 0);
    }

    @Says("Every call tests its numbers first; numbers out of range and all that is said to be refused answer REFUSED")
    private static void numbersAreTestedBeforeAllElse() {
        LeaseDesk desk = deskWith(3, 3, 3, 3, 3, 3, 3, 3, 3, 3);
        due("full, wrong kind", desk.export(4), REFUSED);
        LeaseDesk empty = new LeaseDesk();
        due("lease, wrong peer", empty.lease(3, 0, 1, 1), REFUSED);
        due("lease, wrong duration", empty.lease(0, 0, 1, 51), REFUSED);
        due("lease, not there", empty.lease(0, 0, 1, 50), GONE);
        due("release, wrong peer", empty.release(-1, 0, 1), REFUSED);
        due("release, not there", empty.release(0, 0, 1), GONE);
        due("bind, wrong name", empty.bind(6, 0, true), REFUSED);
        due("bind, not there", empty.bind(5, 0, true), GONE);
        due("call, wrong peer", empty.call(3, 0, 0, 0), REFUSED);
        due("call, wrong method", empty.call(0, 0, 6, 0), REFUSED);
        due("call, not there", empty.call(0, 0, 5, 0), GONE);
        due("object, not there, wrong what", empty.object(0, 6), REFUSED);
    }

    @Says("answer REFUSED (GONE where it is said) and change nothing")
    private static void refusedAndGoneCallsChangeNothing() {
        LeaseDesk desk = deskWith(CHAIN, BRACKET, COUNTER);
        due("bind", desk.bind(1, 1, false), DONE);
        gives(desk, 0, PUT, 1, 0, 0);
        due("tick", desk.tick(3), 0);
        fails(desk, 0, DIV, 7, 2, FORWARD, DIV, BODY, 2);
        String before = stateOf(desk);
        due("export", desk.export(-1), REFUSED);
        due("lease", desk.lease(0, 0, 1, 5), REFUSED);
        due("lease", desk.lease(0, 3, 9, 5), GONE);
        due("release", desk.release(0, 0, 1), REFUSED);
        due("release", desk.release(0, 3, 9), GONE);
        due("tick", desk.tick(-1), REFUSED);
        due("tick", desk.tick(61), REFUSED);
        due("bind", desk.bind(1, 2, false), REFUSED);
        due("bind", desk.bind(1, 3, true), GONE);
        due("unbind", desk.unbind(0), REFUSED);
        due("lookup", desk.lookup(0), REFUSED);
        due("call", desk.call(0, 0, 6, 0), REFUSED);
        due("call", desk.call(1, 0, PUT, ab(2, 0)), GONE);
        same("all is as it was", stateOf(desk), before);
        gives(desk, 1, GET, 0, 0, 2);
        due("the sequence too", desk.lease(0, 0, 2, 5), 8);
    }

    public static void main(String[] args) {
        runSentences(TermsTest.class);
        end();
    }
}
