/**
 * One test for each sentence of the document that speaks of 2000 numbers or of FULL. A call brings
 * one number at most, so no object gets there within the 512 calls that the document speaks of:
 * these runs are longer, and hold the program to the limit that the document's terms give.
 */
public final class FullTests {
    private static final int MOST = 2000;
    private static final int FULL = -3;
    private static final int REFUSED = -1;

    private static int passed = 0;
    private static int failed = 0;
    private static int wrong = 0;
    private static String sentence = "";

    private static void test(String words, Runnable body) {
        sentence = words;
        wrong = 0;
        try {
            body.run();
        } catch (RuntimeException | Error e) {
            wrong++;
            System.out.println(words + ": a call threw " + e);
        }
        if (wrong == 0) {
            passed++;
        } else {
            failed++;
        }
    }

    private static void due(String call, long got, long want) {
        if (got != want) {
            wrong++;
            System.out.println(sentence + ": " + call + " answered " + got + ", due is " + want);
        }
    }

    /** Each has the numbers from 0 on; they come to the hall from the greatest down. */
    private static QueueHall filled(int inHall, int inRing, int inChain) {
        QueueHall x = new QueueHall();
        for (int i = 0; i < inHall; i++) {
            due("enter", x.enter(inHall - 1 - i), i + 1);
        }
        for (int i = 0; i < inRing; i++) {
            due("join", x.join(i, false), i + 1);
        }
        for (int i = 0; i < inChain; i++) {
            due("insert", x.insert(i, i), i + 1);
        }
        return x;
    }

    private static void ringCounts(String after, QueueHall x, int size) {
        due(after + ", then size(1)", x.size(1), size);
        for (int i = 0; i < size; i++) {
            due(after + ", then ring(" + i + ", false)", x.ring(i, false), i);
        }
    }

    private static void chainCounts(String after, QueueHall x, int size) {
        due(after + ", then size(2)", x.size(2), size);
        for (int i = 0; i < size; i++) {
            due(after + ", then chain(" + i + ")", x.chain(i), i);
        }
    }

    /** Takes all from the hall, so it comes last in a test. */
    private static void hallCounts(String after, QueueHall x, int size) {
        due(after + ", then size(0)", x.size(0), size);
        for (int i = 0; i < size; i++) {
            due(after + ", then call(false)", x.call(false), i);
        }
    }

    private static void allAreFullAtOnce() {
        QueueHall x = filled(MOST, MOST, MOST);
        ringCounts("all full", x, MOST);
        chainCounts("all full", x, MOST);
        hallCounts("all full", x, MOST);
    }

    private static void enterIntoFullHall() {
        QueueHall x = filled(MOST, 0, 0);
        due("enter(-5)", x.enter(-5), FULL);
        due("enter(5000)", x.enter(5000), FULL);
        due("enter(7), which it has", x.enter(7), FULL);
        hallCounts("enter into a full hall", x, MOST);
    }

    private static void enterAfterOneWent() {
        QueueHall x = filled(MOST, 0, 0);
        due("enter", x.enter(-5), FULL);
        due("call(false)", x.call(false), 0);
        due("enter(0)", x.enter(0), MOST);
        due("enter(0) again", x.enter(0), FULL);
        hallCounts("enter after one went", x, MOST);
    }

    private static void joinToFullRing() {
        QueueHall x = filled(0, MOST, 0);
        due("join(7, false)", x.join(7, false), FULL);
        ringCounts("join at the end of a full ring", x, MOST);
    }

    private static void joinFirstToFullRing() {
        QueueHall x = filled(0, MOST, 0);
        due("join(7, true)", x.join(7, true), FULL);
        ringCounts("join first to a full ring", x, MOST);
    }

    private static void joinAfterOneWent() {
        QueueHall x = filled(0, MOST, 0);
        due("serve(true, false)", x.serve(true, false), 0);
        due("join(0, true)", x.join(0, true), MOST);
        due("join(0, true) again", x.join(0, true), FULL);
        due("serve(false, false)", x.serve(false, false), MOST - 1);
        due("join(1999, false)", x.join(MOST - 1, false), MOST);
        due("join(1999, false) again", x.join(MOST - 1, false), FULL);
        ringCounts("join after one went", x, MOST);
    }

    private static void rollOfFullRing() {
        QueueHall x = filled(0, MOST, 0);
        due("roll(100)", x.roll(100), MOST);
        for (int i = 0; i < MOST; i++) {
            due("ring(" + i + ", false)", x.ring(i, false), (i + 100) % MOST);
        }
        due("roll(101)", x.roll(101), REFUSED);
    }

    private static void sieveOfFullRing() {
        QueueHall x = filled(0, MOST, 0);
        due("sieve(2, 1)", x.sieve(2, 1), MOST / 2);
        for (int i = 0; i < MOST / 2; i++) {
            due("ring(" + i + ", false)", x.ring(i, false), 2 * i);
        }
        due("sieve(1, 0)", x.sieve(1, 0), MOST / 2);
    }

    private static void insertIntoFullChain() {
        QueueHall x = filled(0, 0, MOST);
        due("insert(0, 7)", x.insert(0, 7), FULL);
        due("insert(1000, 7)", x.insert(1000, 7), FULL);
        due("insert(2000, 7), at its end", x.insert(MOST, 7), FULL);
        chainCounts("insert into a full chain", x, MOST);
    }

    private static void insertAtNoPlaceOfFullChain() {
        QueueHall x = filled(0, 0, MOST);
        due("insert(2001, 7)", x.insert(MOST + 1, 7), REFUSED);
        due("insert(-1, 7)", x.insert(-1, 7), REFUSED);
        chainCounts("insert at no place", x, MOST);
    }

    private static void insertAfterOneWent() {
        QueueHall x = filled(0, 0, MOST);
        due("change(0, 0, true)", x.change(0, 0, true), 0);
        due("insert(0, 0)", x.insert(0, 0), MOST);
        due("insert(0, 0) again", x.insert(0, 0), FULL);
        chainCounts("insert after one went", x, MOST);
    }

    private static void fullInsertKeepsFinger() {
        QueueHall x = filled(0, 0, MOST);
        x.point(1);
        due("pass(false)", x.pass(false), 1);
        due("insert(0, 7)", x.insert(0, 7), FULL);
        due("finger()", x.finger(), 2);
        due("touch(0, 70) of what it met", x.touch(0, 70), MOST);
        due("chain(1)", x.chain(1), 70);
    }

    private static void touchPutsTheLastThatFits() {
        QueueHall x = filled(0, 0, MOST - 1);
        x.point(MOST - 1);
        due("touch(2, 1999)", x.touch(2, MOST - 1), MOST);
        due("finger()", x.finger(), MOST);
        due("touch(2, 2000)", x.touch(2, MOST), FULL);
        due("finger() still", x.finger(), MOST);
        chainCounts("touch 2", x, MOST);
    }

    private static void touchIntoFullChainChangesNothing() {
        QueueHall x = filled(0, 0, MOST);
        x.point(1);
        due("pass(false)", x.pass(false), 1);
        due("touch(2, 7)", x.touch(2, 7), FULL);
        chainCounts("touch(2, 7)", x, MOST);
        due("finger()", x.finger(), 2);
        due("touch(0, 70) of what it met", x.touch(0, 70), MOST);
        due("chain(1)", x.chain(1), 70);
        due("touch(1, 0)", x.touch(1, 0), MOST - 1);
        due("touch(2, 1) after one went", x.touch(2, 1), MOST);
        chainCounts("touch(2, 1)", x, MOST);
    }

    private static void touchOfFullChainWithoutFinger() {
        QueueHall x = filled(0, 0, MOST);
        due("touch(2, 7)", x.touch(2, 7), REFUSED);
        x.point(0);
        due("touch(3, 7)", x.touch(3, 7), REFUSED);
        due("touch(0, 7) with none met", x.touch(0, 7), REFUSED);
    }

    private static void emptyOfTooMany() {
        QueueHall x = filled(2, MOST - 1, 3);
        x.point(1);
        due("empty()", x.empty(), FULL);
        ringCounts("empty() of too many", x, MOST - 1);
        chainCounts("empty() of too many", x, 3);
        due("finger()", x.finger(), 1);
        hallCounts("empty() of too many", x, 2);
    }

    private static void emptyOfJustEnough() {
        QueueHall x = filled(2, MOST - 2, 0);
        due("empty()", x.empty(), MOST);
        due("ring(0, true)", x.ring(0, true), 1);
        due("ring(1, true)", x.ring(1, true), 0);
        due("ring(2, true)", x.ring(2, true), MOST - 3);
        due("size(0)", x.size(0), 0);
    }

    private static void emptyOfFullHall() {
        QueueHall x = filled(MOST, 1, 0);
        due("empty() to a ring of one", x.empty(), FULL);
        due("size(0)", x.size(0), MOST);
        due("serve(true, false)", x.serve(true, false), 0);
        due("empty() to an empty ring", x.empty(), MOST);
        ringCounts("empty() of a full hall", x, MOST);
        due("empty() of none to a full ring", x.empty(), MOST);
        x.enter(5);
        due("empty() of one to a full ring", x.empty(), FULL);
        ringCounts("empty() to a full ring", x, MOST);
        due("call(true)", x.call(true), 5);
    }

    private static void emptyOfTwoThatAreFull() {
        QueueHall x = filled(MOST, MOST, 0);
        due("empty()", x.empty(), FULL);
        ringCounts("empty()", x, MOST);
        hallCounts("empty()", x, MOST);
    }

    private static void handOfTooMany() {
        QueueHall x = filled(3, MOST - 1, 2);
        x.point(0);
        due("pass(false)", x.pass(false), 0);
        due("hand()", x.hand(), FULL);
        ringCounts("hand() of too many", x, MOST - 1);
        chainCounts("hand() of too many", x, 2);
        due("finger()", x.finger(), 1);
        due("touch(0, 70) of what it met", x.touch(0, 70), 2);
        due("chain(0)", x.chain(0), 70);
        hallCounts("hand() of too many", x, 3);
    }

    private static void handOfJustEnough() {
        QueueHall x = filled(0, MOST - 2, 2);
        x.point(1);
        due("hand()", x.hand(), MOST);
        due("ring(0, false)", x.ring(0, false), 0);
        due("ring(1, false)", x.ring(1, false), 1);
        due("ring(2, false)", x.ring(2, false), 0);
        due("ring(0, true)", x.ring(0, true), MOST - 3);
        due("size(2)", x.size(2), 0);
        due("finger()", x.finger(), -1);
    }

    private static void handOfFullChain() {
        QueueHall x = filled(0, 1, MOST);
        due("hand() to a ring of one", x.hand(), FULL);
        chainCounts("hand() to a ring of one", x, MOST);
        due("serve(true, false)", x.serve(true, false), 0);
        due("hand() to an empty ring", x.hand(), MOST);
        ringCounts("hand() of a full chain", x, MOST);
        due("hand() of none to a full ring", x.hand(), MOST);
        x.insert(0, 5);
        due("hand() of one to a full ring", x.hand(), FULL);
        ringCounts("hand() to a full ring", x, MOST);
        due("chain(0)", x.chain(0), 5);
    }

    private static void handOfTwoThatAreFull() {
        QueueHall x = filled(0, MOST, MOST);
        due("hand()", x.hand(), FULL);
        ringCounts("hand()", x, MOST);
        chainCounts("hand()", x, MOST);
    }

    private static void comingOnes() {
        test("Terms, 'Each has at most 2000'", FullTests::allAreFullAtOnce);
        test("2, 'FULL with 2000'", FullTests::enterIntoFullHall);
        test("2, 'FULL with 2000', not with 1999", FullTests::enterAfterOneWent);
        test("8, 'FULL', at its end", FullTests::joinToFullRing);
        test("8, 'FULL', first", FullTests::joinFirstToFullRing);
        test("8, 'FULL', not with 1999", FullTests::joinAfterOneWent);
        test("12, of 2000", FullTests::sieveOfFullRing);
        test("13, of 2000", FullTests::rollOfFullRing);
        test("14, 'FULL'", FullTests::insertIntoFullChain);
        test("14, 'REFUSED if there is no such place or end', of 2000", FullTests::insertAtNoPlaceOfFullChain);
        test("14, 'FULL', not with 1999", FullTests::insertAfterOneWent);
        test("Terms, 'puts nothing into it does not change it', insert", FullTests::fullInsertKeepsFinger);
        test("21, 'FULL', not with 1999", FullTests::touchPutsTheLastThatFits);
        test("21, 'FULL'", FullTests::touchIntoFullChainChangesNothing);
        test("21, 'REFUSED without a finger', of 2000", FullTests::touchOfFullChainWithoutFinger);
    }

    private static void fromOneToAnother() {
        test("23, 'FULL, and nothing is changed'", FullTests::emptyOfTooMany);
        test("23, 'if there were too many', just enough", FullTests::emptyOfJustEnough);
        test("23, 'if there were too many', a full hall", FullTests::emptyOfFullHall);
        test("23, 'if there were too many', two full ones", FullTests::emptyOfTwoThatAreFull);
        test("24, 'FULL likewise'", FullTests::handOfTooMany);
        test("24, 'FULL likewise', just enough", FullTests::handOfJustEnough);
        test("24, 'FULL likewise', a full chain", FullTests::handOfFullChain);
        test("24, 'FULL likewise', two full ones", FullTests::handOfTwoThatAreFull);
    }

    public static void main(String[] args) {
        comingOnes();
        fromOneToAnother();
        System.out.println("FullTests: " + passed + " passed, " + failed + " failed");
        if (failed != 0) {
            System.exit(1);
        }
    }
}
