/**
 * One test for each sentence of the document that names a boundary case. The lists before main give
 * each test the words that it holds the program to. What needs 2000 numbers is in FullTests.
 */
public final class EdgeTests {
    private static final long NOTHING = 1099511627776L;
    private static final int REFUSED = -1;
    private static final int LEAST = Integer.MIN_VALUE;
    private static final int GREATEST = Integer.MAX_VALUE;
    private static final int MOST_CALLS = 512;
    private static final int[] OTHER_WHATS = {-1, 3, 4, LEAST, GREATEST};

    private static int passed = 0;
    private static int failed = 0;
    private static int wrong = 0;
    private static String sentence = "";

    private static void test(String words, Runnable body) {
        sentence = words;
        wrong = 0;
        try {
            body.run();
        } catch (RuntimeException | Error e) {
            wrong++;
            System.out.println(words + ": a call threw " + e);
        }
        if (wrong == 0) {
            passed++;
        } else {
            failed++;
        }
    }

    private static void due(String call, long got, long want) {
        if (got != want) {
            wrong++;
            System.out.println(sentence + ": " + call + " answered " + got + ", due is " + want);
        }
    }

    private static void due(String call, boolean got, boolean want) {
        due(call, got ? 1L : 0L, want ? 1L : 0L);
    }

    private static int[] row(int... numbers) {
        return numbers;
    }

    private static QueueHall made(int[] hall, int[] ring, int[] chain) {
        QueueHall x = new QueueHall();
        for (int number : hall) {
            x.enter(number);
        }
        for (int number : ring) {
            x.join(number, false);
        }
        for (int i = 0; i < chain.length; i++) {
            x.insert(i, chain[i]);
        }
        return x;
    }

    private static QueueHall hallOf(int... numbers) {
        return made(numbers, row(), row());
    }

    private static QueueHall ringOf(int... numbers) {
        return made(row(), numbers, row());
    }

    private static QueueHall chainOf(int... numbers) {
        return made(row(), row(), numbers);
    }

    /** The chain 1, 2, 3, 4 with the finger before 3, which has met 2. */
    private static QueueHall metTwo() {
        QueueHall x = made(row(5, 6), row(7, 8), row(1, 2, 3, 4));
        x.point(1);
        x.pass(false);
        return x;
    }

    private static void ringIs(String after, QueueHall x, int... want) {
        due(after + ", then size(1)", x.size(1), want.length);
        for (int i = 0; i < want.length; i++) {
            due(after + ", then ring(" + i + ", false)", x.ring(i, false), want[i]);
            due(after + ", then ring(" + i + ", true)", x.ring(i, true), want[want.length - 1 - i]);
        }
    }

    private static void chainIs(String after, QueueHall x, int... want) {
        due(after + ", then size(2)", x.size(2), want.length);
        for (int i = 0; i < want.length; i++) {
            due(after + ", then chain(" + i + ")", x.chain(i), want[i]);
        }
    }

    /** Takes all from the hall, so it comes last in a test. */
    private static void hallIs(String after, QueueHall x, int... want) {
        due(after + ", then size(0)", x.size(0), want.length);
        for (int number : want) {
            due(after + ", then call(false)", x.call(false), number);
        }
        due(after + ", then call on none", x.call(false), NOTHING);
    }

    private static void allAre(String after, QueueHall x, int[] hall, int[] ring, int[] chain) {
        ringIs(after, x, ring);
        chainIs(after, x, chain);
        hallIs(after, x, hall);
    }

    /** What metTwo made stands as it was: the rows, the finger and what it met. */
    private static void stillMetTwo(String after, QueueHall x) {
        chainIs(after, x, 1, 2, 3, 4);
        due(after + ", then finger()", x.finger(), 2);
        due(after + ", then touch(0, 20)", x.touch(0, 20), 4);
        chainIs(after + " and touch(0, 20)", x, 1, 20, 3, 4);
        due(after + ", then touch(1, 0)", x.touch(1, 0), 3);
        chainIs(after + " and touch(1, 0)", x, 1, 3, 4);
    }

    private static void fingerIsGone(String after, QueueHall x) {
        due(after + ", then finger()", x.finger(), -1);
        due(after + ", then pass(false)", x.pass(false), NOTHING);
        due(after + ", then pass(true)", x.pass(true), NOTHING);
        for (int what = 0; what < 3; what++) {
            due(after + ", then touch(" + what + ", 9)", x.touch(what, 9), REFUSED);
        }
    }

    // What it is, and the terms.

    private static void hallForAllCalls() {
        QueueHall x = new QueueHall();
        for (int i = 1; i < MOST_CALLS; i++) {
            due("enter, call " + i, x.enter(-i), i);
        }
        due("call(false), call 512", x.call(false), 1 - MOST_CALLS);
    }

    private static void ringForAllCalls() {
        QueueHall x = new QueueHall();
        for (int i = 1; i < MOST_CALLS; i++) {
            due("join, call " + i, x.join(i, i % 2 == 0), i);
        }
        due("serve(true, false), call 512", x.serve(true, false), MOST_CALLS - 2);
    }

    private static void chainForAllCalls() {
        QueueHall x = new QueueHall();
        for (int i = 1; i < MOST_CALLS; i++) {
            due("insert, call " + i, x.insert(i / 2, i), i);
        }
        due("find(2, true), call 512", x.find(2, true), MOST_CALLS - 2);
    }

    private static void fingerForAllCalls() {
        QueueHall x = new QueueHall();
        x.point(0);
        for (int i = 1; i < MOST_CALLS - 1; i++) {
            due("touch(2), call " + (i + 1), x.touch(2, i), i);
        }
        due("pass(true), call 512", x.pass(true), MOST_CALLS - 2);
    }

    private static void movesForAllCalls() {
        QueueHall x = new QueueHall();
        for (int i = 0; i < 255; i++) {
            x.enter(-i);
            x.insert(0, i);
        }
        due("empty(), call 511", x.empty(), 255);
        due("hand(), call 512", x.hand(), 510);
    }

    private static void anyIntIsANumber() {
        int[] odd = {0, -1, -3, LEAST, GREATEST};
        for (int number : odd) {
            QueueHall x = made(row(number), row(number), row(number));
            for (int what = 0; what < 3; what++) {
                due("has(" + what + ", " + number + ")", x.has(what, number), true);
            }
            due("call(true)", x.call(true), number);
            due("serve(true, true)", x.serve(true, true), number);
            due("change to the same", x.change(0, number, false), number);
            due("find", x.find(number, false), 0);
            due("point(0)", x.point(0), 0);
            due("pass(false)", x.pass(false), number);
            due("touch(0, same)", x.touch(0, number), 1);
            due("leave", x.leave(number), true);
            due("drop", x.drop(number, true), true);
            due("unlink", x.unlink(number), true);
        }
    }

    private static void hallKeepsEqualOnes() {
        QueueHall x = hallOf(7, 7, 3, 7);
        hallIs("enter of equal ones", x, 3, 7, 7, 7);
    }

    private static void ringAndChainKeepEqualOnes() {
        QueueHall x = made(row(), row(7, 3, 7, 7), row(7, 7, 3, 7));
        ringIs("join of equal ones", x, 7, 3, 7, 7);
        chainIs("insert of equal ones", x, 7, 7, 3, 7);
    }

    private static void nothingIsTwoToForty() {
        QueueHall x = new QueueHall();
        due("call", x.call(false), 1L << 40);
        due("serve", x.serve(false, false), 1L << 40);
        due("ring", x.ring(0, false), 1L << 40);
        due("change", x.change(0, 0, false), 1L << 40);
        due("chain", x.chain(0), 1L << 40);
        due("pass", x.pass(false), 1L << 40);
    }

    private static void insertEndsFinger() {
        QueueHall x = metTwo();
        x.insert(4, 5);
        fingerIsGone("insert behind the finger", x);
        x = metTwo();
        x.insert(0, 5);
        fingerIsGone("insert before the finger", x);
        chainIs("touch refused", x, 5, 1, 2, 3, 4);
    }

    private static void changeThatGoesEndsFinger() {
        QueueHall x = metTwo();
        x.change(3, 0, true);
        fingerIsGone("change that goes, behind the finger", x);
        x = metTwo();
        x.change(0, 0, true);
        fingerIsGone("change that goes, before the finger", x);
        chainIs("touch refused", x, 2, 3, 4);
    }

    private static void unlinkEndsFinger() {
        QueueHall x = metTwo();
        x.unlink(4);
        fingerIsGone("unlink behind the finger", x);
        x = metTwo();
        x.unlink(1);
        fingerIsGone("unlink before the finger", x);
        chainIs("touch refused", x, 2, 3, 4);
    }

    private static void clearEndsFinger() {
        QueueHall x = metTwo();
        x.clear(2);
        fingerIsGone("clear(2)", x);
        x = chainOf(1);
        x.point(0);
        x.clear(2);
        fingerIsGone("clear(2) of one", x);
    }

    private static void handEndsFinger() {
        QueueHall x = metTwo();
        x.hand();
        fingerIsGone("hand()", x);
        x = chainOf(1);
        x.point(1);
        x.hand();
        fingerIsGone("hand() of one", x);
    }

    private static void fingerThatWentStaysGone() {
        QueueHall x = metTwo();
        x.insert(4, 5);
        x.change(4, 0, true);
        fingerIsGone("insert and its undoing", x);
        due("point(2)", x.point(2), 2);
        due("touch(0, 9) after point anew", x.touch(0, 9), REFUSED);
        due("touch(1, 9) after point anew", x.touch(1, 9), REFUSED);
    }

    private static void refusedInsertKeepsFinger() {
        QueueHall x = metTwo();
        x.insert(-1, 9);
        x.insert(5, 9);
        stillMetTwo("insert at no place", x);
    }

    private static void changeOfNoPlaceKeepsFinger() {
        QueueHall x = metTwo();
        x.change(-1, 9, true);
        x.change(4, 9, true);
        x.change(-1, 9, false);
        x.change(4, 9, false);
        stillMetTwo("change of no place", x);
    }

    private static void unlinkOfNoneKeepsFinger() {
        QueueHall x = metTwo();
        x.unlink(9);
        stillMetTwo("unlink of none", x);
    }

    private static void readingKeepsFinger() {
        QueueHall x = metTwo();
        x.has(2, 2);
        x.size(2);
        x.chain(1);
        x.chain(9);
        x.find(2, false);
        x.find(2, true);
        x.finger();
        stillMetTwo("calls that only read the chain", x);
    }

    private static void hallCallsKeepFinger() {
        QueueHall x = metTwo();
        x.enter(2);
        x.call(true);
        x.call(false);
        x.leave(6);
        x.empty();
        x.enter(2);
        x.clear(0);
        stillMetTwo("calls of the hall", x);
    }

    private static void ringCallsKeepFinger() {
        QueueHall x = metTwo();
        x.join(2, true);
        x.join(2, false);
        x.serve(false, true);
        x.serve(true, false);
        x.drop(2, false);
        x.roll(1);
        x.sieve(2, 0);
        x.clear(1);
        stillMetTwo("calls of the ring", x);
    }

    private static void clearOfAnotherWhatKeepsFinger() {
        QueueHall x = metTwo();
        for (int what : OTHER_WHATS) {
            x.clear(what);
        }
        stillMetTwo("clear of another what", x);
    }

    private static void clearOfEmptyChainKeepsFinger() {
        QueueHall x = new QueueHall();
        x.point(0);
        due("clear(2)", x.clear(2), 0);
        due("finger()", x.finger(), 0);
        due("touch(2, 5)", x.touch(2, 5), 1);
        chainIs("touch(2, 5)", x, 5);
    }

    private static void handOfEmptyChainKeepsFinger() {
        QueueHall x = ringOf(1, 2);
        x.point(0);
        due("hand()", x.hand(), 2);
        due("finger()", x.finger(), 0);
        due("touch(2, 5)", x.touch(2, 5), 1);
        chainIs("touch(2, 5)", x, 5);
        ringIs("touch(2, 5)", x, 1, 2);
    }

    private static void clearAndHandOfEmptyChainMakeNoFinger() {
        QueueHall x = new QueueHall();
        x.clear(2);
        fingerIsGone("clear(2)", x);
        x.hand();
        fingerIsGone("hand()", x);
    }

    private static void lastMetIsTheLatest() {
        QueueHall x = chainOf(1, 2, 3, 4);
        x.point(0);
        x.pass(false);
        x.pass(false);
        x.pass(false);
        x.pass(true);
        x.pass(true);
        due("touch(0, 20) of 2, the latest", x.touch(0, 20), 4);
        chainIs("touch(0, 20)", x, 1, 20, 3, 4);
    }

    private static void lastMetIsAPlaceNotAnEqualNumber() {
        QueueHall x = chainOf(5, 5, 5);
        x.point(1);
        x.pass(false);
        x.touch(0, 6);
        chainIs("touch(0, 6) among equal ones", x, 5, 6, 5);
        x.point(3);
        x.pass(true);
        x.touch(1, 0);
        chainIs("touch(1, 0) among equal ones", x, 5, 6);
    }

    // Promise 1: a new object.

    private static void newHasNoNumbers() {
        for (int what = 0; what < 3; what++) {
            QueueHall x = new QueueHall();
            due("size(" + what + ")", x.size(what), 0);
            due("has(" + what + ", 0)", x.has(what, 0), false);
            due("clear(" + what + ")", x.clear(what), 0);
        }
    }

    private static void newHasNoFinger() {
        fingerIsGone("QueueHall()", new QueueHall());
    }

    private static void newSharesNothing() {
        QueueHall x = metTwo();
        QueueHall other = new QueueHall();
        due("size(0)", other.size(0), 0);
        due("size(1)", other.size(1), 0);
        due("size(2)", other.size(2), 0);
        fingerIsGone("QueueHall()", other);
        other.enter(1);
        other.join(1, false);
        other.insert(0, 1);
        other.point(0);
        stillMetTwo("calls of another object", x);
        ringIs("calls of another object", x, 7, 8);
        hallIs("calls of another object", x, 5, 6);
    }

    // Promises 2 to 4: the hall.

    private static void enterTellsCount() {
        QueueHall x = new QueueHall();
        due("enter(9), the first", x.enter(9), 1);
        due("enter(9), an equal one", x.enter(9), 2);
        x.call(false);
        due("enter(8) after one went", x.enter(8), 2);
    }

    private static void callTellsLeastOfInts() {
        hallIs("enter", hallOf(GREATEST, 0, LEAST, 1, -1), LEAST, -1, 0, 1, GREATEST);
        hallIs("enter upward", hallOf(1, 2, 3, 4), 1, 2, 3, 4);
        hallIs("enter downward", hallOf(4, 3, 2, 1), 1, 2, 3, 4);
    }

    private static void callThatStaysTakesNone() {
        QueueHall x = hallOf(2, 1, 1);
        due("call(true)", x.call(true), 1);
        due("call(true) again", x.call(true), 1);
        hallIs("call(true)", x, 1, 1, 2);
    }

    private static void callThatGoesTakesOne() {
        QueueHall x = hallOf(2, 1, 1);
        due("call(false)", x.call(false), 1);
        due("size(0)", x.size(0), 2);
        due("call(true)", x.call(true), 1);
        hallIs("call(false)", x, 1, 2);
    }

    private static void callOnNone() {
        QueueHall x = new QueueHall();
        due("call(true)", x.call(true), NOTHING);
        due("call(false)", x.call(false), NOTHING);
        due("size(0)", x.size(0), 0);
        x.enter(4);
        due("call(false) of the only one", x.call(false), 4);
        due("call(true) with none left", x.call(true), NOTHING);
        due("call(false) with none left", x.call(false), NOTHING);
        due("enter(5) after that", x.enter(5), 1);
    }

    private static void leaveTakesOneOfEqual() {
        QueueHall x = hallOf(4, 4, 4, 1, 9);
        due("leave(4)", x.leave(4), true);
        hallIs("leave(4)", x, 1, 4, 4, 9);
    }

    private static void leaveAtTheEnds() {
        QueueHall x = hallOf(1, 5, 9);
        due("leave(9), the greatest", x.leave(9), true);
        due("leave(1), the least", x.leave(1), true);
        due("call(true)", x.call(true), 5);
        due("leave(5), the only one", x.leave(5), true);
        hallIs("leave of all", x);
    }

    private static void leaveOfNone() {
        QueueHall x = made(row(1, 9), row(5), row(5));
        due("leave(5)", x.leave(5), false);
        allAre("leave(5)", x, row(1, 9), row(5), row(5));
        due("leave(9) after all went", x.leave(9), false);
        due("leave(0) on a new one", new QueueHall().leave(0), false);
    }

    // Promises 5 to 7: has, size, clear.

    private static void hasLooksInItsOwn() {
        for (int what = 0; what < 3; what++) {
            QueueHall x = made(row(10), row(11), row(12));
            for (int number = 9; number < 14; number++) {
                due("has(" + what + ", " + number + ")", x.has(what, number), number == 10 + what);
            }
        }
    }

    private static void hasOfWhatWent() {
        QueueHall x = made(row(1, 2), row(1, 2), row(1, 2));
        x.call(false);
        x.serve(true, false);
        x.change(0, 0, true);
        for (int what = 0; what < 3; what++) {
            due("has(" + what + ", 1), which went", x.has(what, 1), false);
            due("has(" + what + ", 2), the only one", x.has(what, 2), true);
            x.clear(what);
            due("has(" + what + ", 2) after clear", x.has(what, 2), false);
        }
    }

    private static void hasOfAnotherWhat() {
        QueueHall x = made(row(0, 1), row(0, 1), row(0, 1));
        for (int what : OTHER_WHATS) {
            due("has(" + what + ", 1)", x.has(what, 1), false);
            due("has(" + what + ", 0)", x.has(what, 0), false);
        }
    }

    private static void sizeOfEach() {
        QueueHall x = made(row(1), row(1, 1), row(1, 1, 1));
        due("size(0)", x.size(0), 1);
        due("size(1)", x.size(1), 2);
        due("size(2)", x.size(2), 3);
    }

    private static void sizeOfAnotherWhat() {
        QueueHall x = made(row(1), row(1, 1), row(1, 1, 1));
        for (int what : OTHER_WHATS) {
            due("size(" + what + ")", x.size(what), REFUSED);
        }
    }

    private static void clearTakesItsOwn() {
        QueueHall x = made(row(1), row(2, 3), row(4, 5, 6));
        due("clear(0)", x.clear(0), 1);
        allAre("clear(0)", x, row(), row(2, 3), row(4, 5, 6));
        x = made(row(1), row(2, 3), row(4, 5, 6));
        due("clear(1)", x.clear(1), 2);
        allAre("clear(1)", x, row(1), row(), row(4, 5, 6));
        x = made(row(1), row(2, 3), row(4, 5, 6));
        due("clear(2)", x.clear(2), 3);
        allAre("clear(2)", x, row(1), row(2, 3), row());
    }

    private static void clearOfEmpty() {
        QueueHall x = new QueueHall();
        for (int what = 0; what < 3; what++) {
            due("clear(" + what + ")", x.clear(what), 0);
            due("clear(" + what + ") again", x.clear(what), 0);
            due("size(" + what + ")", x.size(what), 0);
        }
    }

    private static void clearedIsUsedAnew() {
        QueueHall x = made(row(1, 2), row(1, 2), row(1, 2));
        x.clear(0);
        x.clear(1);
        x.clear(2);
        due("enter(5)", x.enter(5), 1);
        due("join(6, true)", x.join(6, true), 1);
        due("insert(0, 7)", x.insert(0, 7), 1);
        allAre("clear", x, row(5), row(6), row(7));
    }

    private static void clearOfAnotherWhat() {
        for (int what : OTHER_WHATS) {
            QueueHall x = made(row(1), row(2, 3), row(4, 5, 6));
            due("clear(" + what + ")", x.clear(what), REFUSED);
            allAre("clear(" + what + ")", x, row(1), row(2, 3), row(4, 5, 6));
        }
    }

    // Promises 8 to 13: the ring.

    private static void joinAtItsEnd() {
        QueueHall x = new QueueHall();
        due("join(1, false) on none", x.join(1, false), 1);
        due("join(2, false)", x.join(2, false), 2);
        ringIs("join at the end", x, 1, 2);
    }

    private static void joinFirst() {
        QueueHall x = new QueueHall();
        due("join(1, true) on none", x.join(1, true), 1);
        due("join(2, true)", x.join(2, true), 2);
        ringIs("join first", x, 2, 1);
    }

    private static void ringWrapsAtBothEnds() {
        QueueHall x = ringOf(0, 1, 2);
        for (int i = 0; i < 150; i++) {
            due("join(" + (i + 3) + ", false)", x.join(i + 3, false), 4);
            due("serve(true, false)", x.serve(true, false), i);
        }
        ringIs("150 joined at the end and served first", x, 150, 151, 152);
        for (int i = 0; i < 90; i++) {
            due("join(" + (-i) + ", true)", x.join(-i, true), 4);
            x.serve(false, false);
        }
        ringIs("90 joined first and served last", x, -89, -88, -87);
    }

    private static void serveLast() {
        QueueHall x = ringOf(1, 2, 3);
        due("serve(false, false)", x.serve(false, false), 3);
        ringIs("serve(false, false)", x, 1, 2);
    }

    private static void serveFirst() {
        QueueHall x = ringOf(1, 2, 3);
        due("serve(true, false)", x.serve(true, false), 1);
        ringIs("serve(true, false)", x, 2, 3);
    }

    private static void serveThatStays() {
        QueueHall x = ringOf(1, 2, 3);
        due("serve(false, true)", x.serve(false, true), 3);
        due("serve(true, true)", x.serve(true, true), 1);
        ringIs("serve that stays", x, 1, 2, 3);
    }

    private static void serveOnNone() {
        for (int i = 0; i < 4; i++) {
            boolean first = i % 2 == 0;
            boolean stays = i / 2 == 0;
            QueueHall x = new QueueHall();
            due("serve on a new one", x.serve(first, stays), NOTHING);
            due("size(1)", x.size(1), 0);
            x.join(6, first);
            due("serve of the only one", x.serve(first, false), 6);
            due("serve with none left", x.serve(first, stays), NOTHING);
            due("join(7, false) after that", x.join(7, false), 1);
            ringIs("join after that", x, 7);
        }
    }

    private static void dropLast() {
        QueueHall x = ringOf(5, 1, 5, 2, 5, 3);
        due("drop(5, false)", x.drop(5, false), true);
        ringIs("drop(5, false)", x, 5, 1, 5, 2, 3);
    }

    private static void dropFirst() {
        QueueHall x = ringOf(1, 5, 2, 5, 3);
        due("drop(5, true)", x.drop(5, true), true);
        ringIs("drop(5, true)", x, 1, 2, 5, 3);
    }

    private static void dropAtTheEnds() {
        QueueHall x = ringOf(1, 2, 3, 4);
        due("drop(1, false), the first of all", x.drop(1, false), true);
        due("drop(4, true), the last of all", x.drop(4, true), true);
        ringIs("drop at the ends", x, 2, 3);
        x.drop(2, true);
        due("drop(3, true), the only one", x.drop(3, true), true);
        ringIs("drop of all", x);
    }

    private static void dropOfNone() {
        QueueHall x = made(row(9), row(1, 2), row(9));
        due("drop(9, true)", x.drop(9, true), false);
        due("drop(9, false)", x.drop(9, false), false);
        allAre("drop of none", x, row(9), row(1, 2), row(9));
        due("drop(0, true) on a new one", new QueueHall().drop(0, true), false);
        due("drop(0, false) on a new one", new QueueHall().drop(0, false), false);
    }

    private static void ringFromItsFirst() {
        QueueHall x = ringOf(10, 11, 12);
        due("ring(0, false)", x.ring(0, false), 10);
        due("ring(2, false)", x.ring(2, false), 12);
    }

    private static void ringFromItsLast() {
        QueueHall x = ringOf(10, 11, 12);
        due("ring(0, true)", x.ring(0, true), 12);
        due("ring(2, true)", x.ring(2, true), 10);
    }

    private static void ringOfNoPlace() {
        QueueHall x = ringOf(10, 11, 12);
        for (int place : row(-1, 3, LEAST, LEAST + 2, GREATEST)) {
            due("ring(" + place + ", false)", x.ring(place, false), NOTHING);
            due("ring(" + place + ", true)", x.ring(place, true), NOTHING);
        }
        x.serve(false, false);
        due("ring(2, false) after the last went", x.ring(2, false), NOTHING);
        due("ring(2, true) after the last went", x.ring(2, true), NOTHING);
        due("ring(0, false) on a new one", new QueueHall().ring(0, false), NOTHING);
        due("ring(0, true) on a new one", new QueueHall().ring(0, true), NOTHING);
    }

    private static void sieveRoundsDown() {
        QueueHall x = ringOf(-4, -3, -2, -1, 0, 1, 2);
        due("sieve(3, 2)", x.sieve(3, 2), 3);
        ringIs("sieve(3, 2)", x, -3, -2, 0, 1);
        x = ringOf(LEAST, GREATEST, -1, 0);
        due("sieve(greatest, greatest - 1)", x.sieve(GREATEST, GREATEST - 1), 2);
        ringIs("sieve(greatest, greatest - 1)", x, GREATEST, 0);
        x = ringOf(5, -5, GREATEST - 5);
        due("sieve(greatest, 5)", x.sieve(GREATEST, 5), 1);
        ringIs("sieve(greatest, 5)", x, -5, GREATEST - 5);
        due("sieve(greatest, greatest - 5)", x.sieve(GREATEST, GREATEST - 5), 2);
    }

    private static void sieveOfAllAndOfNone() {
        QueueHall x = ringOf(3, 6, 9);
        due("sieve(3, 1) of none", x.sieve(3, 1), 0);
        ringIs("sieve of none", x, 3, 6, 9);
        due("sieve(3, 0) of all", x.sieve(3, 0), 3);
        ringIs("sieve of all", x);
        due("sieve(3, 0) on none", x.sieve(3, 0), 0);
    }

    private static void sieveByOne() {
        QueueHall x = ringOf(LEAST, -1, 0, 1, GREATEST);
        due("sieve(1, 1)", x.sieve(1, 1), 0);
        due("sieve(1, -1)", x.sieve(1, -1), 0);
        due("sieve(1, 0)", x.sieve(1, 0), 5);
        ringIs("sieve(1, 0)", x);
    }

    private static void sieveAtLeastAndGreatestRest() {
        QueueHall x = ringOf(0, 1, 2, 3, 4, 5);
        due("sieve(3, 0)", x.sieve(3, 0), 2);
        ringIs("sieve(3, 0)", x, 1, 2, 4, 5);
        due("sieve(3, 2)", x.sieve(3, 2), 2);
        ringIs("sieve(3, 2)", x, 1, 4);
    }

    private static void sieveByNoSuchRest() {
        QueueHall x = ringOf(-4, -3, -2, -1, 0, 1, 2, 3, 4, LEAST, GREATEST);
        for (int rest : row(-1, -2, -3, 3, 4, 6, LEAST, GREATEST)) {
            due("sieve(3, " + rest + ")", x.sieve(3, rest), 0);
        }
        due("sieve(greatest, greatest)", x.sieve(GREATEST, GREATEST), 0);
        due("sieve(greatest, -1)", x.sieve(GREATEST, -1), 0);
        ringIs("sieve by no such rest", x, -4, -3, -2, -1, 0, 1, 2, 3, 4, LEAST, GREATEST);
    }

    private static void sieveByTooSmallStep() {
        QueueHall x = ringOf(-1, 0, 1, 3);
        for (int step : row(0, -1, -3, LEAST)) {
            due("sieve(" + step + ", 0)", x.sieve(step, 0), REFUSED);
            due("sieve(" + step + ", -1)", x.sieve(step, -1), REFUSED);
            due("sieve(" + step + ", 1)", x.sieve(step, 1), REFUSED);
        }
        ringIs("sieve by a step below 1", x, -1, 0, 1, 3);
        due("sieve(0, 0) on a new one", new QueueHall().sieve(0, 0), REFUSED);
    }

    private static void rollByOne() {
        QueueHall x = ringOf(1, 2, 3);
        due("roll(1)", x.roll(1), 3);
        ringIs("roll(1)", x, 2, 3, 1);
    }

    private static void rollByNone() {
        QueueHall x = ringOf(1, 2, 3);
        due("roll(0)", x.roll(0), 3);
        ringIs("roll(0)", x, 1, 2, 3);
    }

    private static void rollByHundred() {
        QueueHall x = new QueueHall();
        for (int i = 0; i < 101; i++) {
            x.join(i, false);
        }
        due("roll(100) of 101", x.roll(100), 101);
        for (int i = 0; i < 101; i++) {
            due("ring(" + i + ", false)", x.ring(i, false), (i + 100) % 101);
        }
        x.serve(true, false);
        due("roll(100) of 100", x.roll(100), 100);
        for (int i = 0; i < 100; i++) {
            due("ring(" + i + ", false) of 100", x.ring(i, false), i);
        }
    }

    private static void rollAroundMoreThanOnce() {
        QueueHall x = ringOf(1, 2, 3);
        due("roll(3), all around", x.roll(3), 3);
        ringIs("roll(3)", x, 1, 2, 3);
        due("roll(100)", x.roll(100), 3);
        ringIs("roll(100)", x, 2, 3, 1);
        due("roll(98)", x.roll(98), 3);
        ringIs("roll(98)", x, 1, 2, 3);
    }

    private static void rollOfNoneAndOfOne() {
        QueueHall x = new QueueHall();
        due("roll(0) on none", x.roll(0), 0);
        due("roll(1) on none", x.roll(1), 0);
        due("roll(100) on none", x.roll(100), 0);
        x.join(5, false);
        due("roll(1) of one", x.roll(1), 1);
        due("roll(100) of one", x.roll(100), 1);
        ringIs("roll of one", x, 5);
    }

    private static void rollByAnotherN() {
        QueueHall x = ringOf(1, 2, 3);
        for (int n : row(-1, 101, LEAST, GREATEST)) {
            due("roll(" + n + ")", x.roll(n), REFUSED);
            due("roll(" + n + ") on a new one", new QueueHall().roll(n), REFUSED);
        }
        ringIs("roll by another n", x, 1, 2, 3);
    }

    // Promises 14 to 18: the chain.

    private static void insertAtBeginning() {
        QueueHall x = chainOf(1, 2);
        due("insert(0, 9)", x.insert(0, 9), 3);
        chainIs("insert(0, 9)", x, 9, 1, 2);
    }

    private static void insertBetween() {
        QueueHall x = chainOf(1, 2);
        due("insert(1, 9)", x.insert(1, 9), 3);
        chainIs("insert(1, 9)", x, 1, 9, 2);
    }

    private static void insertAtEnd() {
        QueueHall x = new QueueHall();
        due("insert(0, 8) on none", x.insert(0, 8), 1);
        due("insert(1, 9)", x.insert(1, 9), 2);
        chainIs("insert at the end", x, 8, 9);
    }

    private static void insertAtNoPlace() {
        QueueHall x = chainOf(1, 2);
        for (int place : row(-1, 3, LEAST, GREATEST)) {
            due("insert(" + place + ", 9)", x.insert(place, 9), REFUSED);
        }
        chainIs("insert at no place", x, 1, 2);
        x.change(1, 0, true);
        due("insert(2, 9) after the last went", x.insert(2, 9), REFUSED);
        QueueHall none = new QueueHall();
        due("insert(1, 9) on none", none.insert(1, 9), REFUSED);
        due("insert(-1, 9) on none", none.insert(-1, 9), REFUSED);
        chainIs("insert at no place on none", none);
    }

    private static void changeToAnother() {
        QueueHall x = chainOf(1, 2, 3);
        due("change(0, 10, false)", x.change(0, 10, false), 1);
        due("change(2, 30, false)", x.change(2, 30, false), 3);
        chainIs("change at the ends", x, 10, 2, 30);
    }

    private static void changeThatGoes() {
        QueueHall x = chainOf(1, 2, 3, 4);
        due("change(0, 10, true)", x.change(0, 10, true), 1);
        due("change(2, 10, true)", x.change(2, 10, true), 4);
        chainIs("change that goes at the ends", x, 2, 3);
        x.change(0, 10, true);
        due("change(0, 10, true) of the only one", x.change(0, 10, true), 3);
        chainIs("change that goes, of all", x);
    }

    private static void changeOfNoPlace() {
        QueueHall x = chainOf(1, 2, 3);
        for (int place : row(-1, 3, LEAST, GREATEST)) {
            due("change(" + place + ", 9, false)", x.change(place, 9, false), NOTHING);
            due("change(" + place + ", 9, true)", x.change(place, 9, true), NOTHING);
        }
        chainIs("change of no place", x, 1, 2, 3);
        due("change(0, 9, false) on a new one", new QueueHall().change(0, 9, false), NOTHING);
        due("change(0, 9, true) on a new one", new QueueHall().change(0, 9, true), NOTHING);
    }

    private static void changeToAnotherKeepsFinger() {
        QueueHall x = metTwo();
        due("change(0, 10, false)", x.change(0, 10, false), 1);
        due("change(2, 30, false)", x.change(2, 30, false), 3);
        due("finger()", x.finger(), 2);
        due("touch(0, 20)", x.touch(0, 20), 4);
        chainIs("touch(0, 20)", x, 10, 20, 30, 4);
        due("pass(false)", x.pass(false), 30);
        due("pass(true)", x.pass(true), 30);
        due("pass(true) again", x.pass(true), 20);
    }

    private static void changeOfLastMetKeepsFinger() {
        QueueHall x = metTwo();
        due("change(1, 20, false) of what it met", x.change(1, 20, false), 2);
        due("finger()", x.finger(), 2);
        due("touch(0, 21)", x.touch(0, 21), 4);
        chainIs("touch(0, 21)", x, 1, 21, 3, 4);
    }

    private static void chainAtTheEnds() {
        QueueHall x = chainOf(LEAST, 0, GREATEST);
        due("chain(0)", x.chain(0), LEAST);
        due("chain(2)", x.chain(2), GREATEST);
    }

    private static void chainOfNoPlace() {
        QueueHall x = chainOf(1, 2, 3);
        for (int place : row(-1, 3, LEAST, GREATEST)) {
            due("chain(" + place + ")", x.chain(place), NOTHING);
        }
        x.unlink(3);
        due("chain(2) after the last went", x.chain(2), NOTHING);
        due("chain(0) on a new one", new QueueHall().chain(0), NOTHING);
    }

    private static void findFirst() {
        QueueHall x = chainOf(4, 5, 4, 5, 6);
        due("find(4, false)", x.find(4, false), 0);
        due("find(5, false)", x.find(5, false), 1);
        due("find(6, false), the last of all", x.find(6, false), 4);
    }

    private static void findLast() {
        QueueHall x = chainOf(6, 4, 5, 4, 5);
        due("find(4, true)", x.find(4, true), 3);
        due("find(5, true)", x.find(5, true), 4);
        due("find(6, true), the first of all", x.find(6, true), 0);
    }

    private static void findOfNone() {
        QueueHall x = made(row(9), row(9), row(1, 2));
        x.unlink(2);
        due("find(9, false)", x.find(9, false), -1);
        due("find(9, true)", x.find(9, true), -1);
        due("find(2, false), which went", x.find(2, false), -1);
        due("find(2, true), which went", x.find(2, true), -1);
        due("find(0, false) on a new one", new QueueHall().find(0, false), -1);
        due("find(0, true) on a new one", new QueueHall().find(0, true), -1);
    }

    private static void unlinkTakesTheFirst() {
        QueueHall x = chainOf(4, 5, 4, 5);
        due("unlink(5)", x.unlink(5), true);
        chainIs("unlink(5)", x, 4, 4, 5);
    }

    private static void unlinkAtTheEnds() {
        QueueHall x = chainOf(1, 2, 3);
        due("unlink(1)", x.unlink(1), true);
        due("unlink(3)", x.unlink(3), true);
        chainIs("unlink at the ends", x, 2);
        due("unlink(2), the only one", x.unlink(2), true);
        chainIs("unlink of all", x);
    }

    private static void unlinkOfNone() {
        QueueHall x = made(row(9), row(9), row(1, 2));
        due("unlink(9)", x.unlink(9), false);
        allAre("unlink(9)", x, row(9), row(9), row(1, 2));
        x.unlink(2);
        due("unlink(2), which went", x.unlink(2), false);
        due("unlink(0) on a new one", new QueueHall().unlink(0), false);
    }

    // Promises 19 to 22: the finger.

    private static void pointBeforeAPlace() {
        QueueHall x = chainOf(1, 2);
        due("point(0)", x.point(0), 0);
        due("pass(false)", x.pass(false), 1);
        due("point(1)", x.point(1), 1);
        due("pass(false)", x.pass(false), 2);
    }

    private static void pointAtEnd() {
        QueueHall x = chainOf(1, 2);
        due("point(2)", x.point(2), 2);
        due("finger()", x.finger(), 2);
        due("pass(false)", x.pass(false), NOTHING);
        due("pass(true)", x.pass(true), 2);
    }

    private static void pointInEmptyChain() {
        QueueHall x = new QueueHall();
        due("point(0)", x.point(0), 0);
        due("finger()", x.finger(), 0);
        due("pass(false)", x.pass(false), NOTHING);
        due("pass(true)", x.pass(true), NOTHING);
    }

    private static void pointHasMetNone() {
        QueueHall x = metTwo();
        due("point(2), where it stands", x.point(2), 2);
        due("touch(0, 9)", x.touch(0, 9), REFUSED);
        due("touch(1, 9)", x.touch(1, 9), REFUSED);
        chainIs("touch refused", x, 1, 2, 3, 4);
    }

    private static void pointAtNoPlaceLeavesFinger() {
        for (int place : row(-1, 5, LEAST, GREATEST)) {
            QueueHall x = metTwo();
            due("point(" + place + ")", x.point(place), REFUSED);
            stillMetTwo("point(" + place + ")", x);
        }
    }

    private static void pointAtNoPlaceMakesNoFinger() {
        QueueHall x = chainOf(1, 2);
        due("point(3)", x.point(3), REFUSED);
        fingerIsGone("point(3)", x);
        due("point(-1)", x.point(-1), REFUSED);
        fingerIsGone("point(-1)", x);
        QueueHall none = new QueueHall();
        due("point(1) on none", none.point(1), REFUSED);
        fingerIsGone("point(1) on none", none);
    }

    private static void passGoesToTheEnd() {
        QueueHall x = chainOf(1, 2);
        x.point(0);
        due("pass(false)", x.pass(false), 1);
        due("finger()", x.finger(), 1);
        due("pass(false), to the end", x.pass(false), 2);
        due("finger()", x.finger(), 2);
    }

    private static void passGoesBackToTheBeginning() {
        QueueHall x = chainOf(1, 2);
        x.point(2);
        due("pass(true)", x.pass(true), 2);
        due("finger()", x.finger(), 1);
        due("pass(true), to the beginning", x.pass(true), 1);
        due("finger()", x.finger(), 0);
    }

    private static void passToAndFro() {
        QueueHall x = chainOf(1, 2, 3);
        x.point(1);
        due("pass(false)", x.pass(false), 2);
        due("pass(true) over the same", x.pass(true), 2);
        due("pass(false) over the same", x.pass(false), 2);
        due("finger()", x.finger(), 2);
    }

    private static void passAtEnd() {
        QueueHall x = chainOf(1, 2);
        x.point(1);
        x.pass(false);
        due("pass(false) at the end", x.pass(false), NOTHING);
        due("pass(false) again", x.pass(false), NOTHING);
        due("finger()", x.finger(), 2);
        due("touch(0, 20) of what it met", x.touch(0, 20), 2);
        chainIs("touch(0, 20)", x, 1, 20);
    }

    private static void passAtBeginning() {
        QueueHall x = chainOf(1, 2);
        x.point(1);
        x.pass(true);
        due("pass(true) at the beginning", x.pass(true), NOTHING);
        due("pass(true) again", x.pass(true), NOTHING);
        due("finger()", x.finger(), 0);
        due("touch(1, 0) of what it met", x.touch(1, 0), 1);
        chainIs("touch(1, 0)", x, 2);
    }

    private static void passOfNoneMeetsNone() {
        QueueHall x = chainOf(1);
        x.point(0);
        due("pass(true)", x.pass(true), NOTHING);
        due("touch(0, 9)", x.touch(0, 9), REFUSED);
        due("touch(1, 9)", x.touch(1, 9), REFUSED);
        x.point(1);
        due("pass(false)", x.pass(false), NOTHING);
        due("touch(0, 9)", x.touch(0, 9), REFUSED);
        due("touch(1, 9)", x.touch(1, 9), REFUSED);
        chainIs("touch refused", x, 1);
    }

    private static void passWithoutFinger() {
        QueueHall x = chainOf(1, 2);
        due("pass(false)", x.pass(false), NOTHING);
        due("pass(true)", x.pass(true), NOTHING);
        due("finger()", x.finger(), -1);
        chainIs("pass without a finger", x, 1, 2);
    }

    private static void touchChangesWhatLiesBefore() {
        QueueHall x = metTwo();
        due("touch(0, 20)", x.touch(0, 20), 4);
        due("finger()", x.finger(), 2);
        chainIs("touch(0, 20)", x, 1, 20, 3, 4);
    }

    private static void touchChangesWhatLiesBehind() {
        QueueHall x = chainOf(1, 2, 3);
        x.point(2);
        x.pass(true);
        due("touch(0, 20)", x.touch(0, 20), 3);
        due("finger()", x.finger(), 1);
        chainIs("touch(0, 20)", x, 1, 20, 3);
    }

    private static void touchTakesWhatLiesBefore() {
        QueueHall x = metTwo();
        due("touch(1, 9)", x.touch(1, 9), 3);
        due("finger()", x.finger(), 1);
        due("pass(false)", x.pass(false), 3);
        due("pass(true)", x.pass(true), 3);
        due("pass(true) again", x.pass(true), 1);
        chainIs("touch(1, 9)", x, 1, 3, 4);
    }

    private static void touchTakesWhatLiesBehind() {
        QueueHall x = chainOf(1, 2, 3);
        x.point(2);
        x.pass(true);
        due("touch(1, 9)", x.touch(1, 9), 2);
        due("finger()", x.finger(), 1);
        due("pass(true)", x.pass(true), 1);
        due("pass(false)", x.pass(false), 1);
        due("pass(false) again", x.pass(false), 3);
        chainIs("touch(1, 9)", x, 1, 3);
    }

    private static void touchTakesAtTheEnds() {
        QueueHall x = chainOf(1, 2, 3);
        x.point(2);
        x.pass(false);
        due("touch(1, 9) of the last", x.touch(1, 9), 2);
        due("finger() at the end", x.finger(), 2);
        x.point(1);
        x.pass(true);
        due("touch(1, 9) of the first", x.touch(1, 9), 1);
        due("finger() at the beginning", x.finger(), 0);
        due("pass(false)", x.pass(false), 2);
        due("touch(1, 9) of the only one", x.touch(1, 9), 0);
        due("finger() in an empty chain", x.finger(), 0);
        due("pass(false) in an empty chain", x.pass(false), NOTHING);
        due("pass(true) in an empty chain", x.pass(true), NOTHING);
    }

    private static void touchPutsBetween() {
        QueueHall x = metTwo();
        due("touch(2, 9)", x.touch(2, 9), 5);
        chainIs("touch(2, 9)", x, 1, 2, 9, 3, 4);
        due("finger()", x.finger(), 3);
        due("pass(false)", x.pass(false), 3);
        due("pass(true)", x.pass(true), 3);
        due("pass(true) again", x.pass(true), 9);
    }

    private static void touchPutsAtTheEnds() {
        QueueHall x = chainOf(1, 2);
        x.point(0);
        due("touch(2, 8) at the beginning", x.touch(2, 8), 3);
        due("finger()", x.finger(), 1);
        due("pass(false)", x.pass(false), 1);
        x.point(3);
        due("touch(2, 9) at the end", x.touch(2, 9), 4);
        due("finger()", x.finger(), 4);
        due("pass(false)", x.pass(false), NOTHING);
        chainIs("touch 2 at the ends", x, 8, 1, 2, 9);
    }

    private static void touchPutsIntoEmptyChain() {
        QueueHall x = new QueueHall();
        x.point(0);
        due("touch(2, 5)", x.touch(2, 5), 1);
        due("finger()", x.finger(), 1);
        due("touch(2, 6)", x.touch(2, 6), 2);
        due("finger()", x.finger(), 2);
        chainIs("touch 2", x, 5, 6);
    }

    private static void touchWithoutFinger() {
        QueueHall x = chainOf(1, 2);
        for (int what = -1; what < 4; what++) {
            due("touch(" + what + ", 9)", x.touch(what, 9), REFUSED);
        }
        chainIs("touch without a finger", x, 1, 2);
        due("touch(2, 9) on a new one", new QueueHall().touch(2, 9), REFUSED);
    }

    private static void touchOfAnotherWhat() {
        for (int what : OTHER_WHATS) {
            QueueHall x = metTwo();
            due("touch(" + what + ", 9)", x.touch(what, 9), REFUSED);
            stillMetTwo("touch(" + what + ", 9)", x);
        }
    }

    private static void touchWithNoneMetSincePoint() {
        QueueHall x = chainOf(1, 2);
        x.point(1);
        due("touch(0, 9)", x.touch(0, 9), REFUSED);
        due("touch(1, 9)", x.touch(1, 9), REFUSED);
        chainIs("touch with none met", x, 1, 2);
        due("finger()", x.finger(), 1);
    }

    private static void touchWithNoneMetSinceOne() {
        QueueHall x = metTwo();
        x.touch(1, 0);
        due("touch(0, 9)", x.touch(0, 9), REFUSED);
        due("touch(1, 9)", x.touch(1, 9), REFUSED);
        chainIs("touch with none met", x, 1, 3, 4);
        due("finger()", x.finger(), 1);
        due("pass(true)", x.pass(true), 1);
        due("touch(0, 10) after it met one", x.touch(0, 10), 3);
        chainIs("touch(0, 10)", x, 10, 3, 4);
    }

    private static void touchWithNoneMetSinceTwo() {
        QueueHall x = metTwo();
        x.touch(2, 9);
        due("touch(0, 8)", x.touch(0, 8), REFUSED);
        due("touch(1, 8)", x.touch(1, 8), REFUSED);
        chainIs("touch with none met", x, 1, 2, 9, 3, 4);
        due("finger()", x.finger(), 3);
        due("pass(true)", x.pass(true), 9);
        due("touch(1, 0) after it met one", x.touch(1, 0), 4);
        chainIs("touch(1, 0)", x, 1, 2, 3, 4);
    }

    private static void touchAgainSinceZero() {
        QueueHall x = metTwo();
        due("touch(0, 20)", x.touch(0, 20), 4);
        due("touch(0, 21)", x.touch(0, 21), 4);
        chainIs("touch 0 twice", x, 1, 21, 3, 4);
        due("touch(1, 0)", x.touch(1, 0), 3);
        chainIs("touch 0 and 1", x, 1, 3, 4);
    }

    private static void touchTwoNeedsNoneMet() {
        QueueHall x = chainOf(1, 2);
        x.point(1);
        due("touch(2, 8) with none met since point", x.touch(2, 8), 3);
        due("touch(2, 9) since a 2", x.touch(2, 9), 4);
        x.pass(true);
        x.touch(1, 0);
        due("touch(2, 7) since a 1", x.touch(2, 7), 4);
        chainIs("touch 2", x, 1, 8, 7, 2);
    }

    private static void fingerAtTheEnds() {
        QueueHall x = chainOf(1, 2, 3);
        x.point(0);
        due("finger() at the beginning", x.finger(), 0);
        x.point(3);
        due("finger() at the end", x.finger(), 3);
        due("finger() again", x.finger(), 3);
    }

    private static void fingerWithout() {
        due("finger() of a new one", new QueueHall().finger(), -1);
        QueueHall x = chainOf(1);
        due("finger() before point", x.finger(), -1);
        x.point(0);
        x.insert(0, 2);
        due("finger() after insert", x.finger(), -1);
    }

    // Promises 23 and 24: from one to another.

    private static void emptyComesToItsEnd() {
        QueueHall x = made(row(3, LEAST, 3, GREATEST, -1), row(9, 8), row(4));
        due("empty()", x.empty(), 7);
        allAre("empty()", x, row(), row(9, 8, LEAST, -1, 3, 3, GREATEST), row(4));
    }

    private static void emptyOfNone() {
        due("empty() of a new one", new QueueHall().empty(), 0);
        QueueHall x = ringOf(9, 8);
        due("empty() with an empty hall", x.empty(), 2);
        ringIs("empty() with an empty hall", x, 9, 8);
    }

    private static void emptyIntoEmptyRing() {
        QueueHall x = hallOf(2, 1);
        due("empty()", x.empty(), 2);
        due("empty() again", x.empty(), 2);
        ringIs("empty()", x, 1, 2);
        due("enter(5) after that", x.enter(5), 1);
        hallIs("enter(5)", x, 5);
    }

    private static void handComesToItsBeginning() {
        QueueHall x = made(row(4), row(9, 8), row(3, 1, 3, 2));
        due("hand()", x.hand(), 6);
        allAre("hand()", x, row(4), row(3, 1, 3, 2, 9, 8), row());
    }

    private static void handOfNone() {
        due("hand() of a new one", new QueueHall().hand(), 0);
        QueueHall x = ringOf(9, 8);
        due("hand() with an empty chain", x.hand(), 2);
        ringIs("hand() with an empty chain", x, 9, 8);
    }

    private static void handIntoEmptyRing() {
        QueueHall x = chainOf(2, 1);
        due("hand()", x.hand(), 2);
        due("hand() again", x.hand(), 2);
        ringIs("hand()", x, 2, 1);
        due("insert(0, 5) after that", x.insert(0, 5), 1);
        chainIs("insert(0, 5)", x, 5);
    }

    private static void termsOfTheRows() {
        String calls = "'at most 512 calls after it has been made'";
        test(calls + ", hall", EdgeTests::hallForAllCalls);
        test(calls + ", ring", EdgeTests::ringForAllCalls);
        test(calls + ", chain", EdgeTests::chainForAllCalls);
        test(calls + ", finger", EdgeTests::fingerForAllCalls);
        test(calls + ", empty and hand", EdgeTests::movesForAllCalls);
        test("Terms, 'NUMBERS: ints'", EdgeTests::anyIntIsANumber);
        test("Terms, 'one as often as it came'", EdgeTests::hallKeepsEqualOnes);
        test("Terms, 'rows of them'", EdgeTests::ringAndChainKeepEqualOnes);
        test("Terms, 'NOTHING: 2^40'", EdgeTests::nothingIsTwoToForty);
    }

    private static void termsOfTheFinger() {
        String ends = "Terms, 'till the chain is changed by another call than those of the finger'";
        test(ends + ", insert", EdgeTests::insertEndsFinger);
        test(ends + ", change", EdgeTests::changeThatGoesEndsFinger);
        test(ends + ", unlink", EdgeTests::unlinkEndsFinger);
        test(ends + ", clear", EdgeTests::clearEndsFinger);
        test(ends + ", hand", EdgeTests::handEndsFinger);
        test("Terms, 'only from point on'", EdgeTests::fingerThatWentStaysGone);
        String stays = "Terms, 'takes nothing from it and puts nothing into it does not change it'";
        test(stays + ", insert", EdgeTests::refusedInsertKeepsFinger);
        test(stays + ", change", EdgeTests::changeOfNoPlaceKeepsFinger);
        test(stays + ", unlink", EdgeTests::unlinkOfNoneKeepsFinger);
        test(stays + ", calls that read", EdgeTests::readingKeepsFinger);
        test(stays + ", hall", EdgeTests::hallCallsKeepFinger);
        test(stays + ", ring", EdgeTests::ringCallsKeepFinger);
        test(stays + ", clear of another what", EdgeTests::clearOfAnotherWhatKeepsFinger);
        test("Terms, 'clear .. of an empty one, too'", EdgeTests::clearOfEmptyChainKeepsFinger);
        test("Terms, 'hand of an empty one, too'", EdgeTests::handOfEmptyChainKeepsFinger);
        test("Terms, 'only from point on', clear and hand", EdgeTests::clearAndHandOfEmptyChainMakeNoFinger);
        test("Terms, 'that it passed latest'", EdgeTests::lastMetIsTheLatest);
        test("Terms, 'that it passed latest', equal ones", EdgeTests::lastMetIsAPlaceNotAnEqualNumber);
    }

    private static void promises1To4() {
        test("1, 'in the state that the terms give', numbers", EdgeTests::newHasNoNumbers);
        test("1, 'in the state that the terms give', finger", EdgeTests::newHasNoFinger);
        test("1, 'makes an object'", EdgeTests::newSharesNothing);
        test("2, 'how many it has'", EdgeTests::enterTellsCount);
        test("3, 'The least number'", EdgeTests::callTellsLeastOfInts);
        test("3, 'if stays, is only told'", EdgeTests::callThatStaysTakesNone);
        test("3, 'of the hall goes'", EdgeTests::callThatGoesTakesOne);
        test("3, 'or NOTHING'", EdgeTests::callOnNone);
        test("4, 'One of a number goes'", EdgeTests::leaveTakesOneOfEqual);
        test("4, 'One of a number goes', at the ends", EdgeTests::leaveAtTheEnds);
        test("4, 'whether there was one'", EdgeTests::leaveOfNone);
    }

    private static void promises5To7() {
        test("5, 'what 0: the hall, 1: the ring, 2: the chain'", EdgeTests::hasLooksInItsOwn);
        test("5, 'Whether a number is in'", EdgeTests::hasOfWhatWent);
        test("5, 'false for another what'", EdgeTests::hasOfAnotherWhat);
        test("6, 'How many numbers'", EdgeTests::sizeOfEach);
        test("6, 'REFUSED for another what'", EdgeTests::sizeOfAnotherWhat);
        test("7, 'All of, what as for has, go'", EdgeTests::clearTakesItsOwn);
        test("7, 'how many there were', of none", EdgeTests::clearOfEmpty);
        test("7, 'All .. go', and others come", EdgeTests::clearedIsUsedAnew);
        test("7, 'REFUSED'", EdgeTests::clearOfAnotherWhat);
    }

    private static void promises8To11() {
        test("8, 'at its end'", EdgeTests::joinAtItsEnd);
        test("8, '(or first)'", EdgeTests::joinFirst);
        test("8 and 9, a ring that wraps around", EdgeTests::ringWrapsAtBothEnds);
        test("9, 'The last'", EdgeTests::serveLast);
        test("9, '(or first)'", EdgeTests::serveFirst);
        test("9, 'if stays, is only told'", EdgeTests::serveThatStays);
        test("9, 'or NOTHING'", EdgeTests::serveOnNone);
        test("10, 'The last .. the others move up'", EdgeTests::dropLast);
        test("10, '(or first) .. the others move up'", EdgeTests::dropFirst);
        test("10, 'the others move up', at the ends", EdgeTests::dropAtTheEnds);
        test("10, 'whether there was one'", EdgeTests::dropOfNone);
        test("11, 'from its first on'", EdgeTests::ringFromItsFirst);
        test("11, 'if back, from its last on'", EdgeTests::ringFromItsLast);
        test("11, 'or NOTHING'", EdgeTests::ringOfNoPlace);
    }

    private static void promises12And13() {
        test("12, '(rounded down)'", EdgeTests::sieveRoundsDown);
        test("12, 'how many', all and none", EdgeTests::sieveOfAllAndOfNone);
        test("12, step 1", EdgeTests::sieveByOne);
        test("12, rest '0 to step - 1'", EdgeTests::sieveAtLeastAndGreatestRest);
        test("12, 'none for a rest that is not 0 to step - 1'", EdgeTests::sieveByNoSuchRest);
        test("12, 'REFUSED if step is below 1'", EdgeTests::sieveByTooSmallStep);
        test("13, 'The first number of the ring becomes its last'", EdgeTests::rollByOne);
        test("13, '0 to 100', 0", EdgeTests::rollByNone);
        test("13, '0 to 100', 100", EdgeTests::rollByHundred);
        test("13, 'n times', more than it has", EdgeTests::rollAroundMoreThanOnce);
        test("13, 'how many there are', none and one", EdgeTests::rollOfNoneAndOfOne);
        test("13, 'REFUSED for another n'", EdgeTests::rollByAnotherN);
    }

    private static void promises14To18() {
        test("14, 'at a place', 0", EdgeTests::insertAtBeginning);
        test("14, 'those from there on move on'", EdgeTests::insertBetween);
        test("14, 'place or end', the end", EdgeTests::insertAtEnd);
        test("14, 'REFUSED if there is no such place or end'", EdgeTests::insertAtNoPlace);
        test("15, 'becomes another one .. what it was'", EdgeTests::changeToAnother);
        test("15, 'if goes, goes'", EdgeTests::changeThatGoes);
        test("15, 'NOTHING if there is no such place'", EdgeTests::changeOfNoPlace);
        test("15, 'the finger stays'", EdgeTests::changeToAnotherKeepsFinger);
        test("15, 'the finger stays', and what it met", EdgeTests::changeOfLastMetKeepsFinger);
        test("16, 'The number at a place'", EdgeTests::chainAtTheEnds);
        test("16, 'or NOTHING'", EdgeTests::chainOfNoPlace);
        test("17, 'The first'", EdgeTests::findFirst);
        test("17, '(or last)'", EdgeTests::findLast);
        test("17, '-1 without'", EdgeTests::findOfNone);
        test("18, 'the first, goes'", EdgeTests::unlinkTakesTheFirst);
        test("18, 'goes from the chain', at the ends", EdgeTests::unlinkAtTheEnds);
        test("18, 'whether there was one'", EdgeTests::unlinkOfNone);
    }

    private static void promises19And20() {
        test("19, 'stands before a place'", EdgeTests::pointBeforeAPlace);
        test("19, '(or at its end)'", EdgeTests::pointAtEnd);
        test("19, '(or at its end)', none", EdgeTests::pointInEmptyChain);
        test("19, 'and has met none'", EdgeTests::pointHasMetNone);
        test("19, 'REFUSED .. (it stays as it was)', a finger", EdgeTests::pointAtNoPlaceLeavesFinger);
        test("19, 'REFUSED .. (it stays as it was)', no finger", EdgeTests::pointAtNoPlaceMakesNoFinger);
        test("20, 'passes the next'", EdgeTests::passGoesToTheEnd);
        test("20, 'if back, the one before'", EdgeTests::passGoesBackToTheBeginning);
        test("20, 'what it met', to and fro", EdgeTests::passToAndFro);
        test("20, 'NOTHING if there is none .. (LAST MET stays then)', end", EdgeTests::passAtEnd);
        test("20, 'NOTHING if there is none .. (LAST MET stays then)', beginning", EdgeTests::passAtBeginning);
        test("20, 'NOTHING if there is none', none met", EdgeTests::passOfNoneMeetsNone);
        test("20, 'or no finger'", EdgeTests::passWithoutFinger);
    }

    private static void promises21And22() {
        test("21, '0: what it met latest becomes number', before it", EdgeTests::touchChangesWhatLiesBefore);
        test("21, '0: what it met latest becomes number', behind it", EdgeTests::touchChangesWhatLiesBehind);
        test("21, '1: that goes', before it", EdgeTests::touchTakesWhatLiesBefore);
        test("21, '1: that goes', behind it", EdgeTests::touchTakesWhatLiesBehind);
        test("21, 'or what is left .. of them'", EdgeTests::touchTakesAtTheEnds);
        test("21, '2: number comes in where the finger stands, before it'", EdgeTests::touchPutsBetween);
        test("21, 'or .. new of them', at the ends", EdgeTests::touchPutsAtTheEnds);
        test("21, 'or .. new of them', none", EdgeTests::touchPutsIntoEmptyChain);
        test("21, 'REFUSED without a finger'", EdgeTests::touchWithoutFinger);
        test("21, 'for another what'", EdgeTests::touchOfAnotherWhat);
        test("21, 'if it has met none since point'", EdgeTests::touchWithNoneMetSincePoint);
        test("21, 'or since a 1'", EdgeTests::touchWithNoneMetSinceOne);
        test("21, 'or since a .. 2'", EdgeTests::touchWithNoneMetSinceTwo);
        test("21, 'since a 1 or 2', not a 0", EdgeTests::touchAgainSinceZero);
        test("21, '(0, 1)', not 2", EdgeTests::touchTwoNeedsNoneMet);
        test("22, 'how many are before it'", EdgeTests::fingerAtTheEnds);
        test("22, '-1 without a finger'", EdgeTests::fingerWithout);
    }

    private static void promises23And24() {
        test("23, 'the least first, come to the ring's end'", EdgeTests::emptyComesToItsEnd);
        test("23, 'how many the ring has', of none", EdgeTests::emptyOfNone);
        test("23, 'how many the ring has', into none", EdgeTests::emptyIntoEmptyRing);
        test("24, 'to the ring's beginning, in their order'", EdgeTests::handComesToItsBeginning);
        test("24, 'how many the ring has', of none", EdgeTests::handOfNone);
        test("24, 'the chain has none'", EdgeTests::handIntoEmptyRing);
    }

    public static void main(String[] args) {
        termsOfTheRows();
        termsOfTheFinger();
        promises1To4();
        promises5To7();
        promises8To11();
        promises12And13();
        promises14To18();
        promises19And20();
        promises21And22();
        promises23And24();
        System.out.println("EdgeTests: " + passed + " passed, " + failed + " failed");
        if (failed != 0) {
            System.exit(1);
        }
    }
}
