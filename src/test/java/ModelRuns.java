import java.util.ArrayDeque;
import java.util.ArrayList;
import java.util.Deque;
import java.util.Iterator;
import java.util.LinkedList;
import java.util.List;
import java.util.TreeMap;

/**
 * Long mixed runs of calls, each answer compared with a model that is built another way: the
 * hall counts its numbers in a tree, the ring is a deque, and the chain is a list of cells in
 * which the finger is a cell of its own, so that the model has no places to keep right.
 */
public final class ModelRuns {
    private static final int RUNS = 3000;
    private static final int CALLS = 512;
    private static final int MOST = 2000;

    /** One number of the chain, or the finger. */
    private static final class Cell {
        int number;
    }

    private static final class Model {
        private static final long NOTHING = 1099511627776L;
        private final TreeMap<Integer, Integer> hall = new TreeMap<>();
        private int inHall = 0;
        private final Deque<Integer> ring = new ArrayDeque<>();
        private final List<Cell> cells = new ArrayList<>();
        private final Cell fingerCell = new Cell();
        private Cell met = null;

        int enter(int number) {
            if (inHall == MOST) {
                return -3;
            }
            hall.merge(number, 1, Integer::sum);
            return ++inHall;
        }

        long call(boolean stays) {
            if (inHall == 0) {
                return NOTHING;
            }
            int least = hall.firstKey();
            if (!stays) {
                leave(least);
            }
            return least;
        }

        boolean leave(int number) {
            if (!hall.containsKey(number)) {
                return false;
            }
            hall.computeIfPresent(number, (key, often) -> often == 1 ? null : often - 1);
            inHall--;
            return true;
        }

        boolean has(int what, int number) {
            return switch (what) {
                case 0 -> hall.containsKey(number);
                case 1 -> ring.contains(number);
                case 2 -> numbers().contains(number);
                default -> false;
            };
        }

        int size(int what) {
            return switch (what) {
                case 0 -> inHall;
                case 1 -> ring.size();
                case 2 -> numbers().size();
                default -> -1;
            };
        }

        int clear(int what) {
            int before = size(what);
            if (what == 0) {
                hall.clear();
                inHall = 0;
            } else if (what == 1) {
                ring.clear();
            } else if (what == 2 && before > 0) {
                cells.clear();
            }
            return before;
        }

        int join(int number, boolean first) {
            if (ring.size() == MOST) {
                return -3;
            }
            if (first) {
                ring.addFirst(number);
            } else {
                ring.addLast(number);
            }
            return ring.size();
        }

        long serve(boolean first, boolean stays) {
            if (ring.isEmpty()) {
                return NOTHING;
            }
            if (stays) {
                return first ? ring.peekFirst() : ring.peekLast();
            }
            return first ? ring.pollFirst() : ring.pollLast();
        }

        boolean drop(int number, boolean first) {
            return first ? ring.removeFirstOccurrence(number) : ring.removeLastOccurrence(number);
        }

        long ring(int place, boolean back) {
            Iterator<Integer> numbers = back ? ring.descendingIterator() : ring.iterator();
            for (int at = 0; numbers.hasNext(); at++) {
                int number = numbers.next();
                if (at == place) {
                    return number;
                }
            }
            return NOTHING;
        }

        int sieve(int step, int rest) {
            if (step < 1) {
                return -1;
            }
            int before = ring.size();
            ring.removeIf(number -> ((number % (long) step) + step) % step == rest);
            return before - ring.size();
        }

        int roll(int n) {
            if (n < 0 || n > 100) {
                return -1;
            }
            for (int i = 0; i < n && !ring.isEmpty(); i++) {
                ring.addLast(ring.pollFirst());
            }
            return ring.size();
        }

        /** The chain without its finger. */
        private LinkedList<Integer> numbers() {
            LinkedList<Integer> row = new LinkedList<>();
            for (Cell cell : cells) {
                if (cell != fingerCell) {
                    row.add(cell.number);
                }
            }
            return row;
        }

        private List<Cell> withoutFinger() {
            List<Cell> row = new ArrayList<>(cells);
            row.remove(fingerCell);
            return row;
        }

        private void becomes(List<Cell> row) {
            cells.clear();
            cells.addAll(row);
        }

        private static Cell cellOf(int number) {
            Cell cell = new Cell();
            cell.number = number;
            return cell;
        }

        int insert(int place, int number) {
            List<Cell> row = withoutFinger();
            if (place < 0 || place > row.size()) {
                return -1;
            }
            if (row.size() == MOST) {
                return -3;
            }
            row.add(place, cellOf(number));
            becomes(row);
            return row.size();
        }

        long change(int place, int number, boolean goes) {
            List<Cell> row = withoutFinger();
            if (place < 0 || place >= row.size()) {
                return NOTHING;
            }
            int old = row.get(place).number;
            if (goes) {
                row.remove(place);
                becomes(row);
            } else {
                row.get(place).number = number;
            }
            return old;
        }

        long chain(int place) {
            List<Cell> row = withoutFinger();
            return place < 0 || place >= row.size() ? NOTHING : row.get(place).number;
        }

        int find(int number, boolean last) {
            return last ? numbers().lastIndexOf(number) : numbers().indexOf(number);
        }

        boolean unlink(int number) {
            int place = find(number, false);
            return place >= 0 && change(place, 0, true) != NOTHING;
        }

        int point(int place) {
            List<Cell> row = withoutFinger();
            if (place < 0 || place > row.size()) {
                return -1;
            }
            row.add(place, fingerCell);
            becomes(row);
            met = null;
            return place;
        }

        long pass(boolean back) {
            int at = cells.indexOf(fingerCell);
            int next = back ? at - 1 : at + 1;
            if (at < 0 || next < 0 || next >= cells.size()) {
                return NOTHING;
            }
            met = cells.get(next);
            cells.set(next, fingerCell);
            cells.set(at, met);
            return met.number;
        }

        int touch(int what, int number) {
            int at = cells.indexOf(fingerCell);
            if (at < 0 || what < 0 || what > 2 || (what < 2 && met == null)) {
                return -1;
            }
            if (what == 0) {
                met.number = number;
                return cells.size() - 1;
            }
            if (what == 1) {
                cells.remove(met);
            } else if (cells.size() > MOST) {
                return -3;
            } else {
                cells.add(at, cellOf(number));
            }
            met = null;
            return cells.size() - 1;
        }

        int finger() {
            return cells.indexOf(fingerCell);
        }

        int empty() {
            if (inHall + ring.size() > MOST) {
                return -3;
            }
            while (inHall > 0) {
                ring.addLast((int) call(false));
            }
            return ring.size();
        }

        int hand() {
            LinkedList<Integer> row = numbers();
            if (row.size() + ring.size() > MOST) {
                return -3;
            }
            if (!row.isEmpty()) {
                cells.clear();
            }
            while (!row.isEmpty()) {
                ring.addFirst(row.pollLast());
            }
            return ring.size();
        }
    }

    /** The same draws on every machine and every day: no source of chance is asked. */
    private static final class Draw {
        private long state;

        Draw(long seed) {
            state = seed;
        }

        int below(int bound) {
            state = state * 6364136223846793005L + 1442695040888963407L;
            return (int) ((state >>> 33) % bound);
        }

        boolean either() {
            return below(2) == 0;
        }

        private int extreme() {
            int[] all = {Integer.MIN_VALUE, Integer.MIN_VALUE + 1, Integer.MAX_VALUE, Integer.MAX_VALUE - 1};
            return all[below(all.length)];
        }

        int number(int spread) {
            return below(40) == 0 ? extreme() : below(2 * spread + 1) - spread;
        }

        int place(int size) {
            return below(60) == 0 ? extreme() : below(size + 3) - 1;
        }

        int what() {
            return below(40) == 0 ? extreme() : below(20) == 0 ? below(2) * 4 - 1 : below(3);
        }

        int turns() {
            return below(10) == 0 ? extreme() : below(4) == 0 ? 98 + below(5) : below(8) - 1;
        }
    }

    private static int passed = 0;
    private static int wrong = 0;
    private static int run = 0;
    private static int at = 0;

    private static void due(String call, long got, long want) {
        if (got == want) {
            passed++;
            return;
        }
        wrong++;
        if (wrong <= 50) {
            System.out.println("run " + run + ", call " + at + ": " + call + " answered " + got + ", due is " + want);
        }
    }

    private static void due(String call, boolean got, boolean want) {
        due(call, got ? 1L : 0L, want ? 1L : 0L);
    }

    private static void hallCall(QueueHall x, Model m, Draw d, int spread, boolean grows) {
        int number = d.number(spread);
        boolean flag = d.either();
        switch (grows ? 0 : d.below(5)) {
            case 0, 1 -> due("enter(" + number + ")", x.enter(number), m.enter(number));
            case 2 -> due("call(" + flag + ")", x.call(flag), m.call(flag));
            case 3 -> due("leave(" + number + ")", x.leave(number), m.leave(number));
            default -> due("empty()", x.empty(), m.empty());
        }
    }

    private static void ringCall(QueueHall x, Model m, Draw d, int spread, boolean grows) {
        int number = d.number(spread);
        boolean flag = d.either();
        boolean other = d.either();
        int place = d.place(m.size(1));
        int step = d.number(spread);
        int n = d.turns();
        switch (grows ? 0 : d.below(8)) {
            case 0, 1 -> due("join(" + number + ", " + flag + ")", x.join(number, flag), m.join(number, flag));
            case 2 -> due("serve(" + flag + ", " + other + ")", x.serve(flag, other), m.serve(flag, other));
            case 3 -> due("drop(" + number + ", " + flag + ")", x.drop(number, flag), m.drop(number, flag));
            case 4 -> due("sieve(" + step + ", " + number + ")", x.sieve(step, number), m.sieve(step, number));
            case 5 -> due("roll(" + n + ")", x.roll(n), m.roll(n));
            default -> due("ring(" + place + ", " + flag + ")", x.ring(place, flag), m.ring(place, flag));
        }
    }

    private static void chainCall(QueueHall x, Model m, Draw d, int spread, boolean grows) {
        int number = d.number(spread);
        boolean goes = d.below(4) == 0;
        int place = d.place(m.size(2));
        switch (grows ? 0 : d.below(7)) {
            case 0, 1 -> due("insert(" + place + ", " + number + ")", x.insert(place, number), m.insert(place, number));
            case 2 -> due("change(" + place + ", " + number + ", " + goes + ")",
                    x.change(place, number, goes), m.change(place, number, goes));
            case 3 -> due("chain(" + place + ")", x.chain(place), m.chain(place));
            case 4 -> due("find(" + number + ", " + goes + ")", x.find(number, goes), m.find(number, goes));
            case 5 -> due("unlink(" + number + ")", x.unlink(number), m.unlink(number));
            default -> {
                if (goes) {
                    due("hand()", x.hand(), m.hand());
                }
            }
        }
    }

    private static void fingerCall(QueueHall x, Model m, Draw d, int spread) {
        int number = d.number(spread);
        boolean back = d.either();
        int what = d.what();
        int place = d.place(m.size(2));
        switch (d.below(8)) {
            case 0 -> due("point(" + place + ")", x.point(place), m.point(place));
            case 1 -> due("finger()", x.finger(), m.finger());
            case 2, 3, 4 -> due("pass(" + back + ")", x.pass(back), m.pass(back));
            default -> due("touch(" + what + ", " + number + ")", x.touch(what, number), m.touch(what, number));
        }
    }

    private static void anyCall(QueueHall x, Model m, Draw d, int spread) {
        int what = d.what();
        int number = d.number(spread);
        switch (d.below(12)) {
            case 0 -> due("clear(" + what + ")", x.clear(what), m.clear(what));
            case 1, 2, 3, 4, 5 -> due("size(" + what + ")", x.size(what), m.size(what));
            default -> due("has(" + what + ", " + number + ")", x.has(what, number), m.has(what, number));
        }
    }

    private static void oneRun(Draw d) {
        QueueHall x = new QueueHall();
        Model m = new Model();
        int spread = 1 + d.below(12);
        int growing = d.below(3) == 0 ? d.below(300) : d.below(20);
        for (at = 1; at <= CALLS; at++) {
            boolean grows = at <= growing;
            switch (d.below(grows ? 3 : 9)) {
                case 0 -> hallCall(x, m, d, spread, grows);
                case 1 -> ringCall(x, m, d, spread, grows);
                case 2, 3 -> chainCall(x, m, d, spread, grows);
                case 4 -> anyCall(x, m, d, spread);
                default -> fingerCall(x, m, d, spread);
            }
        }
        at = 0;
        rowsAreAlike(x, m);
    }

    private static void rowsAreAlike(QueueHall x, Model m) {
        for (int i = 0; i <= m.size(1); i++) {
            due("ring(" + i + ", false) after the run", x.ring(i, false), m.ring(i, false));
        }
        for (int i = 0; i <= m.size(2); i++) {
            due("chain(" + i + ") after the run", x.chain(i), m.chain(i));
        }
        for (int left = m.size(0); left >= 0; left--) {
            due("call(false) after the run", x.call(false), m.call(false));
        }
    }

    public static void main(String[] args) {
        for (run = 1; run <= RUNS; run++) {
            oneRun(new Draw(run));
        }
        System.out.println("ModelRuns: " + passed + " passed, " + wrong + " failed");
        if (wrong != 0) {
            System.exit(1);
        }
    }
}
