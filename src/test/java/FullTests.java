/**
 * FULL at 2000 numbers. No object gets there within the 512 calls that the document speaks of,
 * so these runs are longer: they hold the program to the limit that the document's terms give.
 */
public final class FullTests {
    private static final int MOST = 2000;
    private static final int FULL = -3;
    private static final int REFUSED = -1;

    private static int passed = 0;
    private static int wrong = 0;

    private static void due(String call, long got, long want) {
        if (got == want) {
            passed++;
            return;
        }
        wrong++;
        System.out.println(call + " answered " + got + ", due is " + want);
    }

    private static QueueHall filled(int inHall, int inRing, int inChain) {
        QueueHall x = new QueueHall();
        for (int i = 0; i < inHall; i++) {
            due("enter", x.enter(inHall - i), i + 1);
        }
        for (int i = 0; i < inRing; i++) {
            due("join", x.join(i, false), i + 1);
        }
        for (int i = 0; i < inChain; i++) {
            due("insert", x.insert(i, i), i + 1);
        }
        return x;
    }

    private static void fullHall() {
        QueueHall x = filled(MOST, 0, 0);
        due("enter into a full hall", x.enter(-5), FULL);
        due("size(0)", x.size(0), MOST);
        due("call(true)", x.call(true), 1);
        due("call(false)", x.call(false), 1);
        due("enter", x.enter(-5), MOST);
        due("call(true)", x.call(true), -5);
    }

    private static void fullRing() {
        QueueHall x = filled(0, MOST, 0);
        due("join at the end of a full ring", x.join(7, false), FULL);
        due("join first of a full ring", x.join(7, true), FULL);
        due("roll(100) of a full ring", x.roll(100), MOST);
        for (int i = 0; i < MOST; i++) {
            due("ring(" + i + ", false)", x.ring(i, false), (i + 100) % MOST);
        }
        due("empty() of an empty hall into a full ring", x.empty(), MOST);
        due("hand() of an empty chain into a full ring", x.hand(), MOST);
    }

    private static void fullChain() {
        QueueHall x = filled(0, 0, MOST);
        x.point(1);
        due("pass(false)", x.pass(false), 1);
        due("insert into a full chain", x.insert(0, 7), FULL);
        due("insert at no place of a full chain", x.insert(MOST + 1, 7), REFUSED);
        due("touch(2, 7) in a full chain", x.touch(2, 7), FULL);
        due("finger()", x.finger(), 2);
        due("touch(0, 70) of what was met", x.touch(0, 70), MOST);
        due("chain(1)", x.chain(1), 70);
        due("touch(1, 0)", x.touch(1, 0), MOST - 1);
        due("touch(2, 7)", x.touch(2, 7), MOST);
        x.clear(2);
        due("touch(2, 7) without a finger", x.touch(2, 7), REFUSED);
    }

    private static void emptyIntoRing() {
        QueueHall x = filled(2, MOST - 1, 0);
        due("empty() of too many", x.empty(), FULL);
        due("size(0)", x.size(0), 2);
        due("size(1)", x.size(1), MOST - 1);
        due("ring(0, true)", x.ring(0, true), MOST - 2);
        due("serve(true, false)", x.serve(true, false), 0);
        due("empty() of just enough", x.empty(), MOST);
        due("ring(0, true)", x.ring(0, true), 2);
        due("ring(1, true)", x.ring(1, true), 1);
        due("size(0)", x.size(0), 0);
    }

    private static void handToRing() {
        QueueHall x = filled(0, MOST - 1, 2);
        x.point(0);
        due("pass(false)", x.pass(false), 0);
        due("hand() of too many", x.hand(), FULL);
        due("size(2)", x.size(2), 2);
        due("size(1)", x.size(1), MOST - 1);
        due("finger()", x.finger(), 1);
        due("touch(0, 70) of what was met", x.touch(0, 70), 2);
        due("serve(false, false)", x.serve(false, false), MOST - 2);
        due("hand() of just enough", x.hand(), MOST);
        due("ring(0, false)", x.ring(0, false), 70);
        due("ring(1, false)", x.ring(1, false), 1);
        due("ring(2, false)", x.ring(2, false), 0);
        due("ring(0, true)", x.ring(0, true), MOST - 3);
        due("size(2)", x.size(2), 0);
        due("finger()", x.finger(), -1);
    }

    public static void main(String[] args) {
        fullHall();
        fullRing();
        fullChain();
        emptyIntoRing();
        handToRing();
        System.out.println("FullTests: " + passed + " passed, " + wrong + " failed");
        if (wrong != 0) {
            System.exit(1);
        }
    }
}
