/** What the section 'Terms' says of KINDS, METHODS, FAILURES and depth, sentence by sentence, with the boundary cases. */
public final class MethodsTest extends Checks {
    private static final int[] NO_CELLS = {-1, 4, LEAST, MOST};

    @Says("METHODS: 0 get, 1 put, 2 add, 3 div, 4 use, 5 wake")
    private static void methodsHaveTheirNumbers() {
        LeaseDesk desk = deskWith(COUNTER, BRACKET);
        gives(desk, 0, 1, 12, 0, 0);
        gives(desk, 0, 0, 5, 0, 12);
        gives(desk, 0, 2, 5, 0, 17);
        gives(desk, 0, 3, 5, 0, 3);
        gives(desk, 1, 4, 8, 5, 13);
        gives(desk, 0, 5, 5, 6, 6);
    }

    @Says("Classes: 1 ARITHMETIC, 2 INDEX, 3 NULL, 4 SHORT, 5 FORWARD, 6 DEEP, 7 BODY, 8 CLOSE, 9 NO_METHOD, 10 MONITOR.")
    private static void classesHaveTheirNumbers() {
        LeaseDesk desk = deskWith(COUNTER, VAULT, CHAIN, BRACKET);
        fails(desk, 0, DIV, 0, 0, 1, 0);
        fails(desk, 1, GET, 4, 0, 2, 0);
        fails(desk, 2, GET, 0, 0, 3, 0);
        fails(desk, 1, ADD, 0, -1, 4, -1);
        gives(desk, 2, PUT, 2, 0, 0);
        fails(desk, 2, GET, 0, 0, 5, 0, 5, 0, 5, 0, 5, 0, 5, 0, 6, 5);
        fails(desk, 3, USE, 1, 0, 7, 0);
        fails(desk, 3, USE, 4, 0, 8, 1);
        fails(desk, 3, ADD, 0, 0, 9, 0);
        fails(desk, 3, WAKE, 0, 0, 10, 0);
    }

    @Says("The message is 0, the CAUSE none, and nothing SUPPRESSED, where nothing else is said.")
    private static void plainFailuresHaveNothingMore() {
        LeaseDesk desk = deskWith(COUNTER, VAULT, CHAIN, BRACKET);
        int[][] calls = {
            {0, DIV, 0, 9, ARITHMETIC}, {0, USE, 7, 9, NO_METHOD}, {0, WAKE, 6, 9, MONITOR},
            {1, PUT, 7, 9, INDEX}, {1, DIV, 1, 9, NO_METHOD}, {1, WAKE, 6, 9, MONITOR},
            {2, ADD, 7, 9, NULL}, {2, USE, 7, 9, NULL}, {2, WAKE, 6, 9, MONITOR},
            {3, PUT, 7, 9, NO_METHOD}, {3, DIV, 7, 9, NO_METHOD}, {3, WAKE, 6, 9, MONITOR},
        };
        for (int[] call : calls) {
            fails(desk, call[0], call[1], call[2], call[3], call[4], 0);
            suppressedAre(desk, 0);
            due("no cause", desk.failure(1, 1), REFUSED);
        }
    }

    @Says("COUNTER: get: its value.")
    private static void counterGet() {
        LeaseDesk desk = deskWith(COUNTER);
        gives(desk, 0, PUT, -12, 3, 0);
        gives(desk, 0, GET, MOST, LEAST, -12);
        gives(desk, 0, GET, 0, 0, -12);
    }

    @Says("put: sets it to a; gives the value before.")
    private static void counterPut() {
        LeaseDesk desk = deskWith(COUNTER);
        gives(desk, 0, PUT, MOST, -4, 0);
        gives(desk, 0, PUT, LEAST, -4, MOST);
        gives(desk, 0, PUT, 0, -4, LEAST);
        gives(desk, 0, GET, 0, 0, 0);
    }

    @Says("add: the value plus a is the value from now on, and given")
    private static void counterAdd() {
        LeaseDesk desk = deskWith(COUNTER);
        gives(desk, 0, ADD, 5, 100, 5);
        gives(desk, 0, ADD, -9, 100, -4);
        gives(desk, 0, ADD, 0, 100, -4);
        gives(desk, 0, GET, 0, 0, -4);
    }

    @Says("if that is no int: ARITHMETIC, nothing changes.")
    private static void counterAddAboveTheMost() {
        LeaseDesk desk = deskWith(COUNTER);
        gives(desk, 0, ADD, MOST, 0, MOST);
        fails(desk, 0, ADD, 1, 0, ARITHMETIC, 0);
        fails(desk, 0, ADD, MOST, 0, ARITHMETIC, 0);
        gives(desk, 0, GET, 0, 0, MOST);
        gives(desk, 0, ADD, -1, 0, MOST - 1);
        fails(desk, 0, ADD, 2, 0, ARITHMETIC, 0);
        gives(desk, 0, ADD, 1, 0, MOST);
    }

    @Says("if that is no int: ARITHMETIC, nothing changes.")
    private static void counterAddBelowTheLeast() {
        LeaseDesk desk = deskWith(COUNTER);
        gives(desk, 0, ADD, LEAST, 0, LEAST);
        fails(desk, 0, ADD, -1, 0, ARITHMETIC, 0);
        fails(desk, 0, ADD, LEAST, 0, ARITHMETIC, 0);
        gives(desk, 0, GET, 0, 0, LEAST);
        gives(desk, 0, ADD, MOST, 0, -1);
        gives(desk, 0, ADD, -MOST, 0, LEAST);
    }

    @Says("div: the value divided by a, toward 0")
    private static void counterDivGoesToward0() {
        int[][] quotients = {{7, 2, 3}, {-7, 2, -3}, {7, -2, -3}, {-7, -2, 3}, {1, 2, 0}, {-1, 2, 0}, {0, 5, 0}};
        LeaseDesk desk = deskWith(COUNTER);
        int before = 0;
        for (int[] row : quotients) {
            gives(desk, 0, PUT, row[0], 0, before);
            gives(desk, 0, DIV, row[1], 0, row[2]);
            gives(desk, 0, GET, 0, 0, row[0]);
            before = row[0];
        }
    }

    @Says("(wraps for the least int and -1)")
    private static void counterDivOfTheLeast() {
        LeaseDesk desk = deskWith(COUNTER);
        gives(desk, 0, PUT, LEAST, 0, 0);
        gives(desk, 0, DIV, -1, 0, LEAST);
        gives(desk, 0, DIV, 1, 0, LEAST);
        gives(desk, 0, DIV, LEAST, 0, 1);
        gives(desk, 0, DIV, MOST, 0, -1);
        gives(desk, 0, PUT, MOST, 0, LEAST);
        gives(desk, 0, DIV, -1, 0, -MOST);
        gives(desk, 0, DIV, LEAST, 0, 0);
    }

    @Says("a is 0: ARITHMETIC.")
    private static void counterDivBy0() {
        LeaseDesk desk = deskWith(COUNTER);
        fails(desk, 0, DIV, 0, 3, ARITHMETIC, 0);
        gives(desk, 0, PUT, 8, 0, 0);
        fails(desk, 0, DIV, 0, 3, ARITHMETIC, 0);
        gives(desk, 0, DIV, 3, 0, 2);
    }

    @Says("use: NO_METHOD.")
    private static void counterHasNoUse() {
        LeaseDesk desk = deskWith(COUNTER);
        fails(desk, 0, USE, 1, 1, NO_METHOD, 0);
        fails(desk, 0, USE, 0, 0, NO_METHOD, 0);
        gives(desk, 0, GET, 0, 0, 0);
    }

    @Says("VAULT: get: cell a.")
    private static void vaultGet() {
        LeaseDesk desk = deskWith(VAULT);
        for (int cell = 0; cell <= 3; cell++) {
            gives(desk, 0, PUT, cell, 10 + cell, 0);
        }
        for (int cell = 0; cell <= 3; cell++) {
            gives(desk, 0, GET, cell, 77, 10 + cell);
            gives(desk, 0, GET, cell, 78, 10 + cell);
        }
    }

    @Says("put: sets cell a to b; gives what it was.")
    private static void vaultPut() {
        LeaseDesk desk = deskWith(VAULT);
        gives(desk, 0, PUT, 0, LEAST, 0);
        gives(desk, 0, PUT, 3, MOST, 0);
        gives(desk, 0, PUT, 0, -1, LEAST);
        gives(desk, 0, PUT, 3, 0, MOST);
        gives(desk, 0, PUT, 0, 0, -1);
        gives(desk, 0, PUT, 3, 0, 0);
    }

    @Says("add: cell a plus b (wraps) is the cell's value from now on, and given")
    private static void vaultAdd() {
        LeaseDesk desk = deskWith(VAULT);
        gives(desk, 0, ADD, 0, 6, 6);
        gives(desk, 0, ADD, 0, -2, 4);
        gives(desk, 0, GET, 0, 0, 4);
        gives(desk, 0, ADD, 3, MOST, MOST);
        gives(desk, 0, ADD, 3, 0, MOST);
        gives(desk, 0, GET, 1, 0, 0);
        gives(desk, 0, GET, 2, 0, 0);
    }

    @Says("cell a plus b (wraps)")
    private static void vaultAddWraps() {
        LeaseDesk desk = deskWith(VAULT);
        gives(desk, 0, PUT, 1, LEAST, 0);
        gives(desk, 0, ADD, 1, LEAST, 0);
        gives(desk, 0, PUT, 1, LEAST, 0);
        gives(desk, 0, ADD, 1, -1, MOST);
        gives(desk, 0, PUT, 1, -1, MOST);
        gives(desk, 0, ADD, 1, LEAST, MOST);
        gives(desk, 0, GET, 1, 0, MOST);
        fails(desk, 0, ADD, 1, 1, SHORT, LEAST);
        fails(desk, 0, ADD, 1, MOST, SHORT, -2);
        gives(desk, 0, GET, 1, 0, MOST);
    }

    @Says("if that is below 0: SHORT with that sum as message, nothing changes.")
    private static void vaultAddBelow0() {
        LeaseDesk desk = deskWith(VAULT);
        gives(desk, 0, PUT, 2, 5, 0);
        gives(desk, 0, ADD, 2, -5, 0);
        fails(desk, 0, ADD, 2, -1, SHORT, -1);
        suppressedAre(desk, 0);
        fails(desk, 0, ADD, 2, LEAST, SHORT, LEAST);
        gives(desk, 0, GET, 2, 0, 0);
        gives(desk, 0, PUT, 2, -8, 0);
        fails(desk, 0, ADD, 2, 0, SHORT, -8);
        fails(desk, 0, ADD, 2, 7, SHORT, -1);
        gives(desk, 0, GET, 2, 0, -8);
        gives(desk, 0, ADD, 2, 8, 0);
    }

    @Says("In all three a is not 0 .. 3: INDEX.")
    private static void vaultGetOfNoCell() {
        LeaseDesk desk = deskWith(VAULT);
        for (int cell : NO_CELLS) {
            fails(desk, 0, GET, cell, 1, INDEX, 0);
        }
    }

    @Says("In all three a is not 0 .. 3: INDEX.")
    private static void vaultPutOfNoCell() {
        LeaseDesk desk = deskWith(VAULT);
        for (int cell : NO_CELLS) {
            fails(desk, 0, PUT, cell, 1, INDEX, 0);
        }
        for (int cell = 0; cell <= 3; cell++) {
            gives(desk, 0, GET, cell, 0, 0);
        }
    }

    @Says("In all three a is not 0 .. 3: INDEX.")
    private static void vaultAddOfNoCell() {
        LeaseDesk desk = deskWith(VAULT);
        for (int cell : NO_CELLS) {
            fails(desk, 0, ADD, cell, 1, INDEX, 0);
            fails(desk, 0, ADD, cell, -1, INDEX, 0);
        }
        for (int cell = 0; cell <= 3; cell++) {
            gives(desk, 0, GET, cell, 0, 0);
        }
    }

    @Says("div, use: NO_METHOD.")
    private static void vaultHasNoDivAndNoUse() {
        LeaseDesk desk = deskWith(VAULT);
        for (int a : new int[] {0, 3, 4, -1}) {
            fails(desk, 0, DIV, a, 1, NO_METHOD, 0);
            fails(desk, 0, USE, a, 1, NO_METHOD, 0);
        }
        gives(desk, 0, GET, 0, 0, 0);
        gives(desk, 0, GET, 3, 0, 0);
    }

    @Says("CHAIN: put: its target is the object a")
    private static void chainPut() {
        LeaseDesk desk = deskWith(COUNTER, 0, 0, 0, 0, 0, 0, 0, 0, CHAIN);
        gives(desk, 0, PUT, 100, 0, 0);
        gives(desk, 8, PUT, 108, 0, 0);
        gives(desk, 9, PUT, 0, 8, 0);
        gives(desk, 9, GET, 0, 0, 100);
        gives(desk, 9, PUT, 8, 0, 0);
        gives(desk, 9, GET, 0, 0, 108);
        gives(desk, 9, PUT, 9, 0, 0);
        due("its own target", desk.call(0, 9, GET, 0), FAILED);
        due("is itself", desk.failure(5, 0), DEEP);
    }

    @Says("none if there is no object a")
    private static void chainPutOfNoObject() {
        LeaseDesk desk = deskWith(CHAIN, COUNTER);
        for (int a : new int[] {2, 9, -1, 10, LEAST, MOST}) {
            gives(desk, 0, PUT, 1, 0, 0);
            gives(desk, 0, GET, 0, 0, 0);
            gives(desk, 0, PUT, a, 1, 0);
            fails(desk, 0, GET, 0, 0, NULL, 0);
        }
        due("what comes later is no target", desk.export(VAULT), 2);
        gives(desk, 0, PUT, 3, 0, 0);
        due("what comes later is no target", desk.export(VAULT), 3);
        fails(desk, 0, GET, 0, 0, NULL, 0);
    }

    @Says("gives its uses")
    private static void chainPutGivesTheUses() {
        LeaseDesk desk = deskWith(CHAIN, COUNTER);
        gives(desk, 0, PUT, 1, 0, 0);
        for (int use = 1; use <= 3; use++) {
            gives(desk, 0, USE, 1, 0, use);
            gives(desk, 0, PUT, 1, 0, use);
            gives(desk, 0, PUT, 1, 0, use);
        }
        gives(desk, 0, PUT, -1, 0, 3);
    }

    @Says("get and add: the same method of its target with a and b")
    private static void chainGetAndAdd() {
        LeaseDesk desk = deskWith(CHAIN, VAULT, CHAIN);
        gives(desk, 0, PUT, 1, 0, 0);
        gives(desk, 2, PUT, 0, 0, 0);
        gives(desk, 0, ADD, 3, 40, 40);
        gives(desk, 2, ADD, 3, -1, 39);
        gives(desk, 1, GET, 3, 0, 39);
        gives(desk, 0, GET, 3, 0, 39);
        gives(desk, 2, GET, 3, 0, 39);
        gives(desk, 2, GET, 2, 0, 0);
        gives(desk, 0, PUT, 1, 0, 0);
    }

    @Says("div: the use of its target with a and b")
    private static void chainDiv() {
        LeaseDesk desk = deskWith(CHAIN, BRACKET, CHAIN, COUNTER);
        gives(desk, 0, PUT, 1, 0, 0);
        gives(desk, 0, DIV, 16, 3, 19);
        gives(desk, 0, GET, 0, 0, 2);
        gives(desk, 0, DIV, 0, 5, 5);
        gives(desk, 2, PUT, 3, 0, 0);
        gives(desk, 3, PUT, 30, 0, 0);
        gives(desk, 0, PUT, 2, 0, 0);
        gives(desk, 0, DIV, 4, 0, 34);
        gives(desk, 2, PUT, 3, 0, 1);
        gives(desk, 0, PUT, 2, 0, 0);
    }

    @Says("it has none: NULL")
    private static void chainWithoutTargetIsNull() {
        LeaseDesk desk = deskWith(CHAIN);
        for (int method : new int[] {GET, ADD, DIV}) {
            fails(desk, 0, method, 5, 6, NULL, 0);
            suppressedAre(desk, 0);
        }
        gives(desk, 0, PUT, -1, 0, 0);
    }

    @Says("if that FAILS: FORWARD, with the number of the CHAIN's own method (0, 2 or 3) as message and that failure as CAUSE.")
    private static void chainForwardsFailures() {
        LeaseDesk desk = deskWith(CHAIN, VAULT, CHAIN, BRACKET);
        gives(desk, 0, PUT, 1, 0, 0);
        fails(desk, 0, GET, 4, 0, FORWARD, 0, INDEX, 0);
        fails(desk, 0, ADD, 4, 0, FORWARD, 2, INDEX, 0);
        fails(desk, 0, ADD, 0, -6, FORWARD, 2, SHORT, -6);
        fails(desk, 0, DIV, 4, 0, FORWARD, 3, NO_METHOD, 0);
        gives(desk, 2, PUT, 3, 0, 0);
        fails(desk, 2, ADD, 0, 0, FORWARD, 2, NO_METHOD, 0);
        fails(desk, 2, DIV, 7, 8, FORWARD, 3, BODY, 8);
        suppressedAre(desk, 0);
        suppressedAre(desk, 1, 2, 1);
        fails(desk, 2, DIV, 6, 8, FORWARD, 3, CLOSE, 2);
        suppressedAre(desk, 0);
        suppressedAre(desk, 1, 1);
    }

    @Says("use: add of its target with a and b is tried")
    private static void chainUseAdds() {
        LeaseDesk desk = deskWith(CHAIN, VAULT);
        gives(desk, 0, PUT, 1, 0, 0);
        gives(desk, 0, USE, 3, 11, 11);
        gives(desk, 0, USE, 3, -11, 0);
        gives(desk, 0, USE, 2, 7, 7);
        gives(desk, 1, GET, 2, 0, 7);
        gives(desk, 1, GET, 3, 0, 0);
    }

    @Says("if it has no target: NULL (that counts as a use too)")
    private static void chainUseWithoutTarget() {
        LeaseDesk desk = deskWith(CHAIN);
        fails(desk, 0, USE, 1, 1, NULL, 0);
        gives(desk, 0, PUT, -1, 0, 1);
        fails(desk, 0, USE, 1, 1, NULL, 0);
        gives(desk, 0, PUT, -1, 0, 2);
    }

    @Says("if that FAILS with SHORT: put of the target with a and b, and its value is given")
    private static void chainUseMendsShort() {
        LeaseDesk desk = deskWith(CHAIN, VAULT);
        gives(desk, 0, PUT, 1, 0, 0);
        gives(desk, 1, PUT, 3, 5, 0);
        gives(desk, 0, USE, 3, -6, 5);
        gives(desk, 1, GET, 3, 0, -6);
        gives(desk, 0, USE, 3, 5, -6);
        gives(desk, 1, GET, 3, 0, 5);
        gives(desk, 0, USE, 3, MOST, 5);
        gives(desk, 1, GET, 3, 0, MOST);
        gives(desk, 0, USE, 0, LEAST, 0);
        gives(desk, 1, GET, 0, 0, LEAST);
        gives(desk, 0, PUT, 1, 0, 4);
        due("mended failures are none of a call", desk.count(3), 0);
    }

    @Says("if that FAILS with ARITHMETIC or INDEX: gives -1")
    private static void chainUseMendsArithmeticAndIndex() {
        LeaseDesk desk = deskWith(CHAIN, VAULT, COUNTER);
        gives(desk, 0, PUT, 1, 0, 0);
        for (int cell : NO_CELLS) {
            gives(desk, 0, USE, cell, -3, -1);
        }
        gives(desk, 2, PUT, MOST, 0, 0);
        gives(desk, 0, PUT, 2, 0, 4);
        gives(desk, 0, USE, 1, 0, -1);
        gives(desk, 2, GET, 0, 0, MOST);
        gives(desk, 0, PUT, 2, 0, 5);
        due("mended failures are none of a call", desk.count(3), 0);
    }

    @Says("if it FAILS otherwise: FAILS with that same failure.")
    private static void chainUseFailsWithTheSameFailure() {
        LeaseDesk desk = deskWith(CHAIN, BRACKET, CHAIN, VAULT, COUNTER);
        gives(desk, 0, PUT, 1, 0, 0);
        fails(desk, 0, USE, 0, 0, NO_METHOD, 0);
        gives(desk, 0, PUT, 2, 0, 1);
        fails(desk, 0, USE, 0, 0, NULL, 0);
        gives(desk, 2, PUT, 3, 0, 0);
        fails(desk, 0, USE, 1, -5, FORWARD, 2, SHORT, -5);
        fails(desk, 0, USE, 4, 0, FORWARD, 2, INDEX, 0);
        gives(desk, 3, GET, 1, 0, 0);
        gives(desk, 4, PUT, LEAST, 0, 0);
        gives(desk, 2, PUT, 4, 0, 0);
        fails(desk, 0, USE, -1, 0, FORWARD, 2, ARITHMETIC, 0);
        gives(desk, 2, PUT, -1, 0, 0);
    }

    @Says("In all cases of use its uses rise by 1 at last")
    private static void chainUsesRiseInAllCases() {
        LeaseDesk desk = deskWith(CHAIN, VAULT, COUNTER, BRACKET, CHAIN);
        fails(desk, 0, USE, 0, 0, NULL, 0);
        gives(desk, 0, PUT, 1, 0, 1);
        gives(desk, 0, USE, 0, 1, 1);
        gives(desk, 0, PUT, 1, 0, 2);
        gives(desk, 0, USE, 0, -9, 1);
        gives(desk, 0, PUT, 1, 0, 3);
        gives(desk, 0, USE, 4, 0, -1);
        gives(desk, 0, PUT, 2, 0, 4);
        gives(desk, 2, PUT, MOST, 0, 0);
        gives(desk, 0, USE, 1, 0, -1);
        gives(desk, 0, PUT, 3, 0, 5);
        fails(desk, 0, USE, 1, 0, NO_METHOD, 0);
        gives(desk, 0, PUT, 0, 0, 6);
        due("of itself", desk.call(0, 0, USE, 0), FAILED);
        gives(desk, 0, PUT, 4, 0, 7);
        fails(desk, 0, DIV, 0, 0, FORWARD, 3, NULL, 0);
        gives(desk, 0, PUT, -1, 0, 7);
        gives(desk, 4, PUT, -1, 0, 1);
    }

    @Says("In all cases of use its uses rise by 1")
    private static void chainUsesRiseByUseAlone() {
        LeaseDesk desk = deskWith(CHAIN, COUNTER);
        for (int method : new int[] {GET, ADD, DIV, WAKE}) {
            due("without target", desk.call(0, 0, method, 0), FAILED);
        }
        gives(desk, 0, PUT, 1, 0, 0);
        gives(desk, 0, GET, 0, 0, 0);
        gives(desk, 0, ADD, 1, 0, 1);
        gives(desk, 0, WAKE, 1, 2, 2);
        fails(desk, 0, DIV, 1, 0, FORWARD, 3, NO_METHOD, 0);
        gives(desk, 0, PUT, 1, 0, 0);
    }

    @Says("BRACKET: get: its closings.")
    private static void bracketGet() {
        LeaseDesk desk = deskWith(BRACKET, BRACKET);
        for (int use = 0; use < 3; use++) {
            gives(desk, 0, GET, 1, 7, 2 * use);
            gives(desk, 0, USE, 0, 7, 7);
        }
        gives(desk, 0, GET, 0, 0, 6);
        gives(desk, 1, GET, 0, 0, 0);
    }

    @Says("The body: a is odd: BODY with message b")
    private static void bracketBodyFailsForOddA() {
        LeaseDesk desk = deskWith(BRACKET);
        for (int a : new int[] {1, 9, -7, LEAST + 1}) {
            for (int b : new int[] {0, 5, -1, LEAST, MOST}) {
                fails(desk, 0, USE, a, b, BODY, b);
                suppressedAre(desk, 0);
            }
        }
    }

    @Says("else its value is b plus a.")
    private static void bracketBodyAdds() {
        LeaseDesk desk = deskWith(BRACKET);
        gives(desk, 0, USE, 0, 0, 0);
        gives(desk, 0, USE, 8, 3, 11);
        gives(desk, 0, USE, -8, 3, -5);
        gives(desk, 0, USE, LEAST, 3, LEAST + 3);
    }

    @Says("Nothing FAILED: the body's value (sums wrap).")
    private static void bracketSumsWrap() {
        LeaseDesk desk = deskWith(BRACKET);
        gives(desk, 0, USE, 8, MOST, LEAST + 7);
        gives(desk, 0, USE, -8, LEAST, MOST - 7);
        gives(desk, 0, USE, LEAST, LEAST, 0);
        gives(desk, 0, USE, LEAST, -1, MOST);
    }

    @Says("Then the second is closed, then the first; each closing counts")
    private static void bracketEachClosingCounts() {
        LeaseDesk desk = deskWith(BRACKET);
        for (int a = 0; a < 8; a++) {
            due("use", desk.call(0, 0, USE, ab(a, 1)), a == 0 ? DONE : FAILED);
            gives(desk, 0, GET, 0, 0, 2 * (a + 1));
        }
    }

    @Says("the second's FAILS if bit 1 of a (2) is set")
    private static void bracketSecondFails() {
        LeaseDesk desk = deskWith(BRACKET);
        for (int a : new int[] {2, 10, -6, LEAST + 2}) {
            fails(desk, 0, USE, a, 3, CLOSE, 2);
            suppressedAre(desk, 0);
        }
    }

    @Says("the first's if bit 2 (4) is, with CLOSE and message 2 or 1")
    private static void bracketFirstFails() {
        LeaseDesk desk = deskWith(BRACKET);
        for (int a : new int[] {4, 12, -4, LEAST + 4}) {
            fails(desk, 0, USE, a, 3, CLOSE, 1);
            suppressedAre(desk, 0);
        }
    }

    @Says("If the body FAILED, use FAILS with that failure, and failures of closing are added to its SUPPRESSED ones")
    private static void bracketBodyAndClosingsFail() {
        LeaseDesk desk = deskWith(BRACKET);
        fails(desk, 0, USE, 1, 9, BODY, 9);
        suppressedAre(desk, 0);
        fails(desk, 0, USE, 3, 9, BODY, 9);
        suppressedAre(desk, 0, 2);
        fails(desk, 0, USE, 5, 9, BODY, 9);
        suppressedAre(desk, 0, 1);
        fails(desk, 0, USE, 7, 9, BODY, 9);
        suppressedAre(desk, 0, 2, 1);
        fails(desk, 0, USE, -1, 9, BODY, 9);
        suppressedAre(desk, 0, 2, 1);
    }

    @Says("else with the first failure of closing, and a later one is added to its SUPPRESSED ones")
    private static void bracketClosingsFail() {
        LeaseDesk desk = deskWith(BRACKET);
        fails(desk, 0, USE, 6, 9, CLOSE, 2);
        suppressedAre(desk, 0, 1);
        fails(desk, 0, USE, -2, 9, CLOSE, 2);
        suppressedAre(desk, 0, 1);
    }

    @Says("put, add, div: NO_METHOD.")
    private static void bracketHasNoPutAddDiv() {
        LeaseDesk desk = deskWith(BRACKET);
        for (int method : new int[] {PUT, ADD, DIV}) {
            fails(desk, 0, method, 0, 0, NO_METHOD, 0);
            fails(desk, 0, method, 7, 1, NO_METHOD, 0);
            suppressedAre(desk, 0);
        }
        gives(desk, 0, GET, 0, 0, 0);
    }

    @Says("wake, of every KIND: a is odd: gives b")
    private static void wakeOfOddAGivesB() {
        LeaseDesk desk = deskWith(COUNTER, VAULT, CHAIN, BRACKET);
        for (int kind = COUNTER; kind <= BRACKET; kind++) {
            gives(desk, kind, WAKE, 1, LEAST, LEAST);
            gives(desk, kind, WAKE, -1, MOST, MOST);
            gives(desk, kind, WAKE, MOST, 0, 0);
        }
    }

    @Says("else MONITOR")
    private static void wakeOfEvenAFails() {
        LeaseDesk desk = deskWith(COUNTER, VAULT, CHAIN, BRACKET);
        for (int kind = COUNTER; kind <= BRACKET; kind++) {
            fails(desk, kind, WAKE, 0, 8, MONITOR, 0);
            fails(desk, kind, WAKE, -2, 8, MONITOR, 0);
            fails(desk, kind, WAKE, LEAST, 8, MONITOR, 0);
        }
    }

    @Says("wake, of every KIND")
    private static void wakeOfAChainIsItsOwn() {
        LeaseDesk desk = deskWith(CHAIN, CHAIN);
        gives(desk, 0, PUT, 1, 0, 0);
        gives(desk, 1, PUT, 0, 0, 0);
        gives(desk, 0, WAKE, 3, 8, 8);
        fails(desk, 0, WAKE, 2, 8, MONITOR, 0);
    }

    /** Chains 0 .. 4 in a row, and one object of the kind at its end, under number 5. */
    private static LeaseDesk fiveChainsTo(int kind) {
        LeaseDesk desk = deskWith(CHAIN, CHAIN, CHAIN, CHAIN, CHAIN, kind);
        for (int chain = 0; chain < 5; chain++) {
            gives(desk, chain, PUT, chain + 1, 0, 0);
        }
        return desk;
    }

    @Says("A call of a method by a CHAIN is one deeper than the CHAIN's own call; a peer's call has depth 0.")
    private static void depth4IsDone() {
        LeaseDesk desk = fiveChainsTo(VAULT);
        gives(desk, 1, ADD, 2, 9, 9);
        gives(desk, 1, GET, 2, 0, 9);
        gives(desk, 1, USE, 2, 1, 10);
        gives(desk, 1, DIV, 2, 1, 11);
        gives(desk, 2, PUT, 3, 0, 1);
        gives(desk, 1, PUT, 2, 0, 1);
        fails(desk, 1, GET, 4, 0, FORWARD, 0, FORWARD, 0, FORWARD, 0, FORWARD, 0, INDEX, 0);
        fails(desk, 1, ADD, 2, -12, FORWARD, 2, FORWARD, 2, FORWARD, 2, FORWARD, 2, SHORT, -1);
    }

    @Says("A method that is called at depth 5 does nothing but FAIL with DEEP, message 5")
    private static void depth5IsDeep() {
        LeaseDesk desk = fiveChainsTo(COUNTER);
        fails(desk, 0, GET, 0, 0, FORWARD, 0, FORWARD, 0, FORWARD, 0, FORWARD, 0, FORWARD, 0, DEEP, 5);
        suppressedAre(desk, 5);
        fails(desk, 0, ADD, 3, 0, FORWARD, 2, FORWARD, 2, FORWARD, 2, FORWARD, 2, FORWARD, 2, DEEP, 5);
        gives(desk, 5, GET, 0, 0, 0);
    }

    @Says("does nothing but FAIL with DEEP")
    private static void deepComesBeforeEachKindsOwnFailures() {
        LeaseDesk vault = fiveChainsTo(VAULT);
        due("no cell", vault.call(0, 0, GET, ab(4, 0)), FAILED);
        due("class", vault.failure(5, 0), DEEP);
        due("short", vault.call(0, 0, ADD, ab(0, -1)), FAILED);
        due("class", vault.failure(5, 0), DEEP);
        LeaseDesk bracket = fiveChainsTo(BRACKET);
        due("no method", bracket.call(0, 0, ADD, 0), FAILED);
        due("class", bracket.failure(5, 0), DEEP);
        LeaseDesk chain = fiveChainsTo(CHAIN);
        due("no target", chain.call(0, 0, GET, 0), FAILED);
        due("class", chain.failure(5, 0), DEEP);
        due("message", chain.failure(5, 1), 5);
        due("no cause", chain.failure(6, 0), REFUSED);
    }

    @Says("(a CHAIN treats this as any failure of its target)")
    private static void useOverADeepRow() {
        LeaseDesk desk = fiveChainsTo(COUNTER);
        fails(desk, 0, USE, 1, 0, FORWARD, 2, FORWARD, 2, FORWARD, 2, FORWARD, 2, DEEP, 5);
        fails(desk, 0, DIV, 1, 0, FORWARD, 3, FORWARD, 2, FORWARD, 2, FORWARD, 2, DEEP, 5);
        gives(desk, 0, PUT, 1, 0, 1);
        gives(desk, 1, PUT, 2, 0, 1);
        gives(desk, 5, GET, 0, 0, 0);
    }

    @Says("A call of a method by a CHAIN is one deeper than the CHAIN's own call")
    private static void rowsWithoutEndAreDeep() {
        LeaseDesk desk = deskWith(CHAIN, CHAIN, CHAIN);
        gives(desk, 0, PUT, 0, 0, 0);
        fails(desk, 0, GET, 0, 0, FORWARD, 0, FORWARD, 0, FORWARD, 0, FORWARD, 0, FORWARD, 0, DEEP, 5);
        fails(desk, 0, USE, 0, 0, FORWARD, 2, FORWARD, 2, FORWARD, 2, FORWARD, 2, DEEP, 5);
        fails(desk, 0, DIV, 0, 0, FORWARD, 3, FORWARD, 2, FORWARD, 2, FORWARD, 2, DEEP, 5);
        gives(desk, 0, PUT, 0, 0, 2);
        gives(desk, 1, PUT, 2, 0, 0);
        gives(desk, 2, PUT, 1, 0, 0);
        fails(desk, 1, ADD, 0, 0, FORWARD, 2, FORWARD, 2, FORWARD, 2, FORWARD, 2, FORWARD, 2, DEEP, 5);
    }

    public static void main(String[] args) {
        runSentences(MethodsTest.class);
        end();
    }
}
