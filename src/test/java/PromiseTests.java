/** For each promise of the document: ordinary calls, the edges that it names, wrong inputs. */
public final class PromiseTests {
    private static final long NOTHING = 1099511627776L;
    private static final int LEAST = Integer.MIN_VALUE;
    private static final int GREATEST = Integer.MAX_VALUE;

    private static int passed = 0;
    private static int wrong = 0;
    private static String promise = "";

    private static void due(String call, long got, long want) {
        if (got == want) {
            passed++;
            return;
        }
        wrong++;
        System.out.println(promise + ": " + call + " answered " + got + ", due is " + want);
    }

    private static void due(String call, boolean got, boolean want) {
        due(call, got ? 1L : 0L, want ? 1L : 0L);
    }

    private static QueueHall hallOf(int... numbers) {
        QueueHall x = new QueueHall();
        for (int number : numbers) {
            x.enter(number);
        }
        return x;
    }

    private static QueueHall ringOf(int... numbers) {
        QueueHall x = new QueueHall();
        for (int number : numbers) {
            x.join(number, false);
        }
        return x;
    }

    private static QueueHall chainOf(int... numbers) {
        QueueHall x = new QueueHall();
        for (int i = 0; i < numbers.length; i++) {
            x.insert(i, numbers[i]);
        }
        return x;
    }

    private static void ringIs(String after, QueueHall x, int... want) {
        due(after + ", then size(1)", x.size(1), want.length);
        for (int i = 0; i < want.length; i++) {
            due(after + ", then ring(" + i + ", false)", x.ring(i, false), want[i]);
        }
        due(after + ", then ring past the last", x.ring(want.length, false), NOTHING);
    }

    private static void chainIs(String after, QueueHall x, int... want) {
        due(after + ", then size(2)", x.size(2), want.length);
        for (int i = 0; i < want.length; i++) {
            due(after + ", then chain(" + i + ")", x.chain(i), want[i]);
        }
        due(after + ", then chain past the last", x.chain(want.length), NOTHING);
    }

    /** Takes all from the hall, so it comes last in a test. */
    private static void hallIs(String after, QueueHall x, int... want) {
        due(after + ", then size(0)", x.size(0), want.length);
        for (int number : want) {
            due(after + ", then call(false)", x.call(false), number);
        }
        due(after + ", then call on none", x.call(false), NOTHING);
    }

    private static void newObject() {
        promise = "promise 1";
        QueueHall x = new QueueHall();
        due("REFUSED", QueueHall.REFUSED, -1);
        due("FULL", QueueHall.FULL, -3);
        for (int what = 0; what < 3; what++) {
            due("size(" + what + ")", x.size(what), 0);
            due("has(" + what + ", 0)", x.has(what, 0), false);
        }
        due("finger()", x.finger(), -1);
        due("touch(2, 1)", x.touch(2, 1), -1);
        QueueHall other = new QueueHall();
        x.enter(1);
        x.join(2, false);
        x.insert(0, 3);
        x.point(0);
        due("size(0) of another object", other.size(0), 0);
        due("size(1) of another object", other.size(1), 0);
        due("size(2) of another object", other.size(2), 0);
        due("finger() of another object", other.finger(), -1);
    }

    private static void enter() {
        promise = "promise 2";
        QueueHall x = new QueueHall();
        due("enter(5)", x.enter(5), 1);
        due("enter(5) again", x.enter(5), 2);
        due("enter(least)", x.enter(LEAST), 3);
        due("enter(greatest)", x.enter(GREATEST), 4);
        due("enter(-1)", x.enter(-1), 5);
        due("size(1)", x.size(1), 0);
        due("size(2)", x.size(2), 0);
        hallIs("enter", x, LEAST, -1, 5, 5, GREATEST);
    }

    private static void call() {
        promise = "promise 3";
        QueueHall x = new QueueHall();
        due("call(true) on none", x.call(true), NOTHING);
        due("call(false) on none", x.call(false), NOTHING);
        x = hallOf(3, -2, 7, -2);
        due("call(true)", x.call(true), -2);
        due("call(true) again", x.call(true), -2);
        due("size(0) after call(true)", x.size(0), 4);
        due("call(false)", x.call(false), -2);
        due("size(0) after call(false)", x.size(0), 3);
        due("enter(-9)", x.enter(-9), 4);
        due("call(true) of another least", x.call(true), -9);
        hallIs("call", x, -9, -2, 3, 7);
    }

    private static void leave() {
        promise = "promise 4";
        due("leave(0) on none", new QueueHall().leave(0), false);
        QueueHall x = hallOf(4, 1, 4, 9);
        due("leave(5)", x.leave(5), false);
        due("size(0) after leave(5)", x.size(0), 4);
        due("leave(4)", x.leave(4), true);
        due("has(0, 4) with one left", x.has(0, 4), true);
        due("leave(4) again", x.leave(4), true);
        due("leave(4) with none left", x.leave(4), false);
        hallIs("leave", x, 1, 9);
        x = hallOf(LEAST, GREATEST);
        due("leave(greatest)", x.leave(GREATEST), true);
        due("leave(least)", x.leave(LEAST), true);
    }

    private static void has() {
        promise = "promise 5";
        QueueHall x = new QueueHall();
        x.enter(10);
        x.join(11, false);
        x.insert(0, 12);
        for (int what = 0; what < 3; what++) {
            for (int number = 9; number < 14; number++) {
                due("has(" + what + ", " + number + ")", x.has(what, number), number == 10 + what);
            }
        }
        for (int what : new int[] {-1, 3, LEAST, GREATEST}) {
            due("has(" + what + ", 10)", x.has(what, 10), false);
            due("has(" + what + ", 0)", x.has(what, 0), false);
        }
        x.call(false);
        due("has(0, 10) after it went", x.has(0, 10), false);
    }

    private static void size() {
        promise = "promise 6";
        QueueHall x = hallOf(1);
        x.join(1, false);
        x.join(1, true);
        x.insert(0, 1);
        x.insert(0, 1);
        x.insert(0, 1);
        due("size(0)", x.size(0), 1);
        due("size(1)", x.size(1), 2);
        due("size(2)", x.size(2), 3);
        for (int what : new int[] {-1, 3, LEAST, GREATEST}) {
            due("size(" + what + ")", x.size(what), -1);
        }
    }

    private static void clear() {
        promise = "promise 7";
        for (int what = 0; what < 3; what++) {
            QueueHall x = hallOf(1);
            x.join(1, false);
            x.join(2, false);
            x.insert(0, 1);
            x.insert(0, 2);
            x.insert(0, 3);
            due("clear(" + what + ")", x.clear(what), what + 1);
            due("clear(" + what + ") again", x.clear(what), 0);
            for (int other = 0; other < 3; other++) {
                due("size(" + other + ")", x.size(other), other == what ? 0 : other + 1);
            }
            due("has(" + what + ", 1)", x.has(what, 1), false);
        }
        QueueHall x = chainOf(1, 2);
        for (int what : new int[] {-1, 3, LEAST, GREATEST}) {
            due("clear(" + what + ")", x.clear(what), -1);
        }
        x.point(1);
        x.clear(0);
        x.clear(1);
        x.clear(5);
        due("finger() after clear of others", x.finger(), 1);
        x.clear(2);
        due("finger() after clear(2)", x.finger(), -1);
        x.point(0);
        due("clear(2) of an empty one", x.clear(2), 0);
        due("finger() after clear(2) of an empty one", x.finger(), 0);
        x = chainOf(1);
        x.point(0);
        due("clear(2) of one", x.clear(2), 1);
        due("finger() after clear(2) of one", x.finger(), -1);
    }

    private static void join() {
        promise = "promise 8";
        QueueHall x = new QueueHall();
        due("join(1, false)", x.join(1, false), 1);
        due("join(2, false)", x.join(2, false), 2);
        due("join(3, true)", x.join(3, true), 3);
        due("join(1, true)", x.join(1, true), 4);
        due("join(least, false)", x.join(LEAST, false), 5);
        ringIs("join", x, 1, 3, 1, 2, LEAST);
        x = new QueueHall();
        due("join(7, true) on none", x.join(7, true), 1);
        ringIs("join first", x, 7);
    }

    private static void serve() {
        promise = "promise 9";
        QueueHall x = new QueueHall();
        for (int i = 0; i < 4; i++) {
            due("serve on none", x.serve((i & 1) == 0, (i & 2) == 0), NOTHING);
        }
        x = ringOf(1, 2, 3, 4);
        due("serve(false, true)", x.serve(false, true), 4);
        due("serve(true, true)", x.serve(true, true), 1);
        ringIs("serve that stays", x, 1, 2, 3, 4);
        due("serve(false, false)", x.serve(false, false), 4);
        ringIs("serve(false, false)", x, 1, 2, 3);
        due("serve(true, false)", x.serve(true, false), 1);
        ringIs("serve(true, false)", x, 2, 3);
        x.serve(true, false);
        x.serve(true, false);
        due("serve(true, false) on none left", x.serve(true, false), NOTHING);
        due("size(1)", x.size(1), 0);
    }

    private static void drop() {
        promise = "promise 10";
        due("drop(0, true) on none", new QueueHall().drop(0, true), false);
        QueueHall x = ringOf(5, 1, 5, 2, 5, 3);
        due("drop(4, true)", x.drop(4, true), false);
        due("drop(4, false)", x.drop(4, false), false);
        ringIs("drop of none", x, 5, 1, 5, 2, 5, 3);
        due("drop(5, false)", x.drop(5, false), true);
        ringIs("drop(5, false)", x, 5, 1, 5, 2, 3);
        due("drop(5, true)", x.drop(5, true), true);
        ringIs("drop(5, true)", x, 1, 5, 2, 3);
        due("drop(3, true)", x.drop(3, true), true);
        due("drop(1, false)", x.drop(1, false), true);
        ringIs("drop at the ends", x, 5, 2);
    }

    private static void ring() {
        promise = "promise 11";
        due("ring(0, false) on none", new QueueHall().ring(0, false), NOTHING);
        due("ring(0, true) on none", new QueueHall().ring(0, true), NOTHING);
        QueueHall x = ringOf(10, 11, 12);
        for (int i = 0; i < 3; i++) {
            due("ring(" + i + ", false)", x.ring(i, false), 10 + i);
            due("ring(" + i + ", true)", x.ring(i, true), 12 - i);
        }
        for (int place : new int[] {-1, 3, LEAST, GREATEST}) {
            due("ring(" + place + ", false)", x.ring(place, false), NOTHING);
            due("ring(" + place + ", true)", x.ring(place, true), NOTHING);
        }
        due("size(1)", x.size(1), 3);
    }

    private static void sieve() {
        promise = "promise 12";
        QueueHall x = ringOf(-4, -3, -2, -1, 0, 1, 2, 3, 4);
        due("sieve(0, 0)", x.sieve(0, 0), -1);
        due("sieve(-3, 0)", x.sieve(-3, 0), -1);
        due("sieve(least, 0)", x.sieve(LEAST, 0), -1);
        due("sieve(3, 3)", x.sieve(3, 3), 0);
        due("sieve(3, -1)", x.sieve(3, -1), 0);
        due("sieve(3, greatest)", x.sieve(3, GREATEST), 0);
        ringIs("sieve of none", x, -4, -3, -2, -1, 0, 1, 2, 3, 4);
        due("sieve(3, 2)", x.sieve(3, 2), 3);
        ringIs("sieve(3, 2)", x, -3, -2, 0, 1, 3, 4);
        due("sieve(3, 2) again", x.sieve(3, 2), 0);
        due("sieve(1, 1)", x.sieve(1, 1), 0);
        due("sieve(1, 0)", x.sieve(1, 0), 6);
        ringIs("sieve(1, 0)", x);
        x = ringOf(LEAST, GREATEST, -1, 0);
        due("sieve(greatest, greatest - 1)", x.sieve(GREATEST, GREATEST - 1), 2);
        ringIs("sieve(greatest, greatest - 1)", x, GREATEST, 0);
        due("sieve(greatest, 0)", x.sieve(GREATEST, 0), 2);
        due("sieve(2, 0) on none", x.sieve(2, 0), 0);
    }

    private static void roll() {
        promise = "promise 13";
        QueueHall x = new QueueHall();
        due("roll(0) on none", x.roll(0), 0);
        due("roll(100) on none", x.roll(100), 0);
        due("roll(-1) on none", x.roll(-1), -1);
        due("roll(101) on none", x.roll(101), -1);
        x = ringOf(1, 2, 3);
        due("roll(0)", x.roll(0), 3);
        ringIs("roll(0)", x, 1, 2, 3);
        due("roll(1)", x.roll(1), 3);
        ringIs("roll(1)", x, 2, 3, 1);
        due("roll(3)", x.roll(3), 3);
        ringIs("roll(3)", x, 2, 3, 1);
        due("roll(100)", x.roll(100), 3);
        ringIs("roll(100)", x, 3, 1, 2);
        for (int n : new int[] {-1, 101, LEAST, GREATEST}) {
            due("roll(" + n + ")", x.roll(n), -1);
        }
        ringIs("roll refused", x, 3, 1, 2);
        x = new QueueHall();
        for (int i = 0; i < 150; i++) {
            x.join(i, false);
        }
        due("roll(100) of 150", x.roll(100), 150);
        for (int i = 0; i < 150; i++) {
            due("ring(" + i + ", false) after roll(100)", x.ring(i, false), (i + 100) % 150);
        }
    }

    private static void insert() {
        promise = "promise 14";
        QueueHall x = new QueueHall();
        due("insert(1, 9) on none", x.insert(1, 9), -1);
        due("insert(0, 1)", x.insert(0, 1), 1);
        due("insert(1, 2)", x.insert(1, 2), 2);
        due("insert(0, 3)", x.insert(0, 3), 3);
        due("insert(1, least)", x.insert(1, LEAST), 4);
        x.point(2);
        for (int place : new int[] {-1, 5, LEAST, GREATEST}) {
            due("insert(" + place + ", 9)", x.insert(place, 9), -1);
        }
        due("finger() after insert refused", x.finger(), 2);
        chainIs("insert", x, 3, LEAST, 1, 2);
        due("insert(4, 8)", x.insert(4, 8), 5);
        due("finger() after insert", x.finger(), -1);
    }

    private static void change() {
        promise = "promise 15";
        due("change(0, 1, false) on none", new QueueHall().change(0, 1, false), NOTHING);
        due("change(0, 1, true) on none", new QueueHall().change(0, 1, true), NOTHING);
        QueueHall x = chainOf(1, 2, 3);
        x.point(1);
        for (int place : new int[] {-1, 3, LEAST, GREATEST}) {
            due("change(" + place + ", 9, false)", x.change(place, 9, false), NOTHING);
            due("change(" + place + ", 9, true)", x.change(place, 9, true), NOTHING);
        }
        chainIs("change of no place", x, 1, 2, 3);
        due("finger() after change of no place", x.finger(), 1);
        due("change(1, 20, false)", x.change(1, 20, false), 2);
        due("finger() after change(1, 20, false)", x.finger(), 1);
        chainIs("change(1, 20, false)", x, 1, 20, 3);
        due("pass(false)", x.pass(false), 20);
        due("change(1, 21, false) of the last met", x.change(1, 21, false), 20);
        due("touch(1, 0) of the last met", x.touch(1, 0), 2);
        chainIs("touch(1, 0)", x, 1, 3);
        due("change(1, 50, true)", x.change(1, 50, true), 3);
        due("finger() after change(1, 50, true)", x.finger(), -1);
        chainIs("change(1, 50, true)", x, 1);
    }

    private static void chain() {
        promise = "promise 16";
        due("chain(0) on none", new QueueHall().chain(0), NOTHING);
        QueueHall x = chainOf(7, LEAST, GREATEST);
        due("chain(0)", x.chain(0), 7);
        due("chain(1)", x.chain(1), LEAST);
        due("chain(2)", x.chain(2), GREATEST);
        for (int place : new int[] {-1, 3, LEAST, GREATEST}) {
            due("chain(" + place + ")", x.chain(place), NOTHING);
        }
    }

    private static void find() {
        promise = "promise 17";
        due("find(0, false) on none", new QueueHall().find(0, false), -1);
        due("find(0, true) on none", new QueueHall().find(0, true), -1);
        QueueHall x = chainOf(4, 5, 4, 6, 5);
        due("find(4, false)", x.find(4, false), 0);
        due("find(4, true)", x.find(4, true), 2);
        due("find(5, false)", x.find(5, false), 1);
        due("find(5, true)", x.find(5, true), 4);
        due("find(6, false)", x.find(6, false), 3);
        due("find(6, true)", x.find(6, true), 3);
        due("find(0, false)", x.find(0, false), -1);
        due("find(0, true)", x.find(0, true), -1);
    }

    private static void unlink() {
        promise = "promise 18";
        due("unlink(0) on none", new QueueHall().unlink(0), false);
        QueueHall x = chainOf(4, 5, 4, 5);
        x.point(3);
        due("unlink(9)", x.unlink(9), false);
        due("finger() after unlink of none", x.finger(), 3);
        due("unlink(5)", x.unlink(5), true);
        due("finger() after unlink", x.finger(), -1);
        chainIs("unlink(5)", x, 4, 4, 5);
        due("unlink(5) again", x.unlink(5), true);
        due("unlink(5) with none left", x.unlink(5), false);
        chainIs("unlink(5) twice", x, 4, 4);
    }

    private static void point() {
        promise = "promise 19";
        QueueHall x = new QueueHall();
        due("point(1) on none", x.point(1), -1);
        due("finger() after point refused", x.finger(), -1);
        due("point(0) on none", x.point(0), 0);
        due("finger() on none", x.finger(), 0);
        x = chainOf(1, 2);
        for (int place = 0; place <= 2; place++) {
            due("point(" + place + ")", x.point(place), place);
            due("finger() after point(" + place + ")", x.finger(), place);
        }
        due("pass(true)", x.pass(true), 2);
        for (int place : new int[] {-1, 3, LEAST, GREATEST}) {
            due("point(" + place + ")", x.point(place), -1);
        }
        due("finger() after point refused", x.finger(), 1);
        due("touch(0, 20) after point refused", x.touch(0, 20), 2);
        chainIs("touch(0, 20)", x, 1, 20);
        due("point(1) anew", x.point(1), 1);
        due("touch(0, 30) after point", x.touch(0, 30), -1);
        due("touch(1, 30) after point", x.touch(1, 30), -1);
        chainIs("touch refused", x, 1, 20);
    }

    private static void pass() {
        promise = "promise 20";
        QueueHall x = chainOf(1, 2);
        due("pass(false) without a finger", x.pass(false), NOTHING);
        due("pass(true) without a finger", x.pass(true), NOTHING);
        x.point(0);
        due("pass(true) at the beginning", x.pass(true), NOTHING);
        due("touch(0, 9) with none met", x.touch(0, 9), -1);
        due("pass(false)", x.pass(false), 1);
        due("pass(false) again", x.pass(false), 2);
        due("finger() at the end", x.finger(), 2);
        due("pass(false) at the end", x.pass(false), NOTHING);
        due("finger() still at the end", x.finger(), 2);
        due("touch(0, 20) of what was met", x.touch(0, 20), 2);
        due("pass(true)", x.pass(true), 20);
        due("pass(false) over the same", x.pass(false), 20);
        due("pass(true) over the same", x.pass(true), 20);
        due("pass(true) again", x.pass(true), 1);
        due("pass(true) past the beginning", x.pass(true), NOTHING);
        due("touch(1, 0) of what was met", x.touch(1, 0), 1);
        chainIs("touch(1, 0)", x, 20);
        due("finger()", x.finger(), 0);
        x = new QueueHall();
        x.point(0);
        due("pass(false) on none", x.pass(false), NOTHING);
        due("pass(true) on none", x.pass(true), NOTHING);
    }

    private static void touch() {
        promise = "promise 21";
        QueueHall x = chainOf(1, 2, 3, 4);
        for (int what = -1; what < 4; what++) {
            due("touch(" + what + ", 9) without a finger", x.touch(what, 9), -1);
        }
        x.point(1);
        due("pass(false)", x.pass(false), 2);
        for (int what : new int[] {-1, 3, LEAST, GREATEST}) {
            due("touch(" + what + ", 9)", x.touch(what, 9), -1);
        }
        due("touch(0, 20) after touch refused", x.touch(0, 20), 4);
        due("touch(0, 21) again", x.touch(0, 21), 4);
        due("finger() after touch 0", x.finger(), 2);
        chainIs("touch 0", x, 1, 21, 3, 4);
        touchTakes(x);
        touchPuts();
    }

    private static void touchTakes(QueueHall x) {
        due("touch(1, 9) of what lies before", x.touch(1, 9), 3);
        chainIs("touch 1", x, 1, 3, 4);
        due("finger() after touch 1 of what lay before", x.finger(), 1);
        due("touch(1, 9) since a 1", x.touch(1, 9), -1);
        due("touch(0, 9) since a 1", x.touch(0, 9), -1);
        due("pass(false)", x.pass(false), 3);
        due("pass(true)", x.pass(true), 3);
        due("touch(1, 9) of what lies behind", x.touch(1, 9), 2);
        due("finger() after touch 1 of what lay behind", x.finger(), 1);
        chainIs("touch 1 of what lay behind", x, 1, 4);
        due("pass(true)", x.pass(true), 1);
        due("touch(1, 9)", x.touch(1, 9), 1);
        due("pass(false)", x.pass(false), 4);
        due("touch(1, 9) of the last one", x.touch(1, 9), 0);
        due("finger() on none", x.finger(), 0);
    }

    private static void touchPuts() {
        QueueHall x = new QueueHall();
        x.point(0);
        due("touch(2, 5) on none", x.touch(2, 5), 1);
        due("finger() after touch 2", x.finger(), 1);
        due("touch(2, 6)", x.touch(2, 6), 2);
        chainIs("touch 2", x, 5, 6);
        due("pass(false)", x.pass(false), NOTHING);
        due("pass(true)", x.pass(true), 6);
        due("touch(2, 7) between", x.touch(2, 7), 3);
        chainIs("touch 2 between", x, 5, 7, 6);
        due("touch(0, 9) since a 2", x.touch(0, 9), -1);
        due("touch(1, 9) since a 2", x.touch(1, 9), -1);
        due("finger()", x.finger(), 2);
        due("pass(false)", x.pass(false), 6);
        due("touch(0, least)", x.touch(0, LEAST), 3);
        chainIs("touch", x, 5, 7, LEAST);
    }

    private static void finger() {
        promise = "promise 22";
        QueueHall x = chainOf(1, 2, 3);
        due("finger() without", x.finger(), -1);
        x.point(2);
        due("finger()", x.finger(), 2);
        x.enter(1);
        x.join(1, false);
        x.call(false);
        x.serve(true, false);
        x.empty();
        x.find(1, false);
        x.chain(0);
        x.has(2, 1);
        x.size(2);
        x.roll(1);
        x.sieve(1, 0);
        due("finger() after calls that leave the chain", x.finger(), 2);
        x.insert(3, 4);
        due("finger() after insert", x.finger(), -1);
        due("pass(true) after insert", x.pass(true), NOTHING);
        due("touch(2, 1) after insert", x.touch(2, 1), -1);
        due("point(4)", x.point(4), 4);
        due("finger() anew", x.finger(), 4);
    }

    private static void empty() {
        promise = "promise 23";
        due("empty() on none", new QueueHall().empty(), 0);
        QueueHall x = hallOf(3, -1, 3, 2);
        x.join(9, false);
        x.join(0, false);
        x.insert(0, 1);
        x.point(1);
        due("empty()", x.empty(), 6);
        ringIs("empty()", x, 9, 0, -1, 2, 3, 3);
        due("size(0)", x.size(0), 0);
        due("call(false)", x.call(false), NOTHING);
        due("empty() again", x.empty(), 6);
        due("size(2)", x.size(2), 1);
        due("finger()", x.finger(), 1);
    }

    private static void hand() {
        promise = "promise 24";
        due("hand() on none", new QueueHall().hand(), 0);
        QueueHall x = chainOf(3, 1, 2);
        x.join(9, false);
        x.join(8, false);
        x.enter(4);
        x.point(1);
        due("hand()", x.hand(), 5);
        ringIs("hand()", x, 3, 1, 2, 9, 8);
        chainIs("hand()", x);
        due("finger() after hand", x.finger(), -1);
        due("size(0)", x.size(0), 1);
        x.point(0);
        due("hand() of an empty one", x.hand(), 5);
        due("finger() after hand of an empty one", x.finger(), 0);
        x = chainOf(1);
        x.point(0);
        due("hand() of one", x.hand(), 1);
        due("finger() after hand of one", x.finger(), -1);
    }

    public static void main(String[] args) {
        newObject();
        enter();
        call();
        leave();
        has();
        size();
        clear();
        join();
        serve();
        drop();
        ring();
        sieve();
        roll();
        insert();
        change();
        chain();
        find();
        unlink();
        point();
        pass();
        touch();
        finger();
        empty();
        hand();
        System.out.println("PromiseTests: " + passed + " passed, " + wrong + " failed");
        if (wrong != 0) {
            System.exit(1);
        }
    }
}
