/**
 * Three ways of waiting: a hall where the least goes first, a ring that is open at both ends,
 * and a chain with a finger in it; numbers go from one to another.
 */
public final class QueueHall {
    public static final int REFUSED = -1, FULL = -3;

    private static final long NOTHING = 1L << 40;
    private static final int MOST = 2000;
    private static final int MOST_TURNS = 100;
    private static final int NONE = -1;

    // Kept in order, so that the least is always at place 0.
    private final Row hallRow;
    private final Row ringRow;
    private final Row chainRow;

    // How many of the chain stand before the finger, or NONE without a finger.
    private int fingerPlace;
    // The place of what the finger met latest, or NONE. A place and not a number: change may
    // give that place another number while the finger stays.
    private int metPlace;

    public QueueHall() {
        hallRow = new Row();
        ringRow = new Row();
        chainRow = new Row();
        fingerPlace = NONE;
        metPlace = NONE;
    }

    public int enter(int number) {
        return hallRow.put(hallRow.countBelow(number), number) ? hallRow.count : FULL;
    }

    public long call(boolean stays) {
        return stays ? hallRow.at(0) : hallRow.take(0);
    }

    public boolean leave(int number) {
        return hallRow.take(hallRow.firstPlace(number)) != NOTHING;
    }

    public boolean has(int what, int number) {
        Row row = rowOf(what);
        return row != null && row.firstPlace(number) != NONE;
    }

    public int size(int what) {
        Row row = rowOf(what);
        return row == null ? REFUSED : row.count;
    }

    public int clear(int what) {
        Row row = rowOf(what);
        if (row == null) {
            return REFUSED;
        }
        int gone = row.wipe();
        if (row == chainRow && gone > 0) {
            liftFinger();
        }
        return gone;
    }

    public int join(int number, boolean first) {
        return ringRow.put(first ? 0 : ringRow.count, number) ? ringRow.count : FULL;
    }

    public long serve(boolean first, boolean stays) {
        int place = first ? 0 : ringRow.count - 1;
        return stays ? ringRow.at(place) : ringRow.take(place);
    }

    public boolean drop(int number, boolean first) {
        int place = first ? ringRow.firstPlace(number) : ringRow.lastPlace(number);
        return ringRow.take(place) != NOTHING;
    }

    public long ring(int place, boolean back) {
        if (!ringRow.hasPlace(place)) {
            return NOTHING;
        }
        return ringRow.at(back ? ringRow.count - 1 - place : place);
    }

    public int sieve(int step, int rest) {
        return ringRow.takeRest(step, rest);
    }

    public int roll(int n) {
        return ringRow.turn(n);
    }

    public int insert(int place, int number) {
        if (!chainRow.hasPlaceOrEnd(place)) {
            return REFUSED;
        }
        if (!chainRow.put(place, number)) {
            return FULL;
        }
        liftFinger();
        return chainRow.count;
    }

    public long change(int place, int number, boolean goes) {
        long old = goes ? chainRow.take(place) : chainRow.swap(place, number);
        if (goes && old != NOTHING) {
            liftFinger();
        }
        return old;
    }

    public long chain(int place) {
        return chainRow.at(place);
    }

    public int find(int number, boolean last) {
        return last ? chainRow.lastPlace(number) : chainRow.firstPlace(number);
    }

    public boolean unlink(int number) {
        if (chainRow.take(chainRow.firstPlace(number)) == NOTHING) {
            return false;
        }
        liftFinger();
        return true;
    }

    public int point(int place) {
        if (!chainRow.hasPlaceOrEnd(place)) {
            return REFUSED;
        }
        fingerPlace = place;
        metPlace = NONE;
        return place;
    }

    public long pass(boolean back) {
        if (fingerPlace == NONE) {
            return NOTHING;
        }
        int place = back ? fingerPlace - 1 : fingerPlace;
        if (!chainRow.hasPlace(place)) {
            return NOTHING;
        }
        fingerPlace = back ? place : place + 1;
        metPlace = place;
        return chainRow.at(place);
    }

    public int touch(int what, int number) {
        if (fingerPlace == NONE) {
            return REFUSED;
        }
        switch (what) {
            case 0:
                return changeMet(number);
            case 1:
                return takeMet();
            case 2:
                return putAtFinger(number);
            default:
                return REFUSED;
        }
    }

    public int finger() {
        return fingerPlace;
    }

    public int empty() {
        return ringRow.takeAll(hallRow, ringRow.count) ? ringRow.count : FULL;
    }

    public int hand() {
        boolean changes = chainRow.count > 0;
        if (!ringRow.takeAll(chainRow, 0)) {
            return FULL;
        }
        if (changes) {
            liftFinger();
        }
        return ringRow.count;
    }

    private Row rowOf(int what) {
        switch (what) {
            case 0:
                return hallRow;
            case 1:
                return ringRow;
            case 2:
                return chainRow;
            default:
                return null;
        }
    }

    private void liftFinger() {
        fingerPlace = NONE;
        metPlace = NONE;
    }

    private int changeMet(int number) {
        return chainRow.swap(metPlace, number) == NOTHING ? REFUSED : chainRow.count;
    }

    private int takeMet() {
        if (chainRow.take(metPlace) == NOTHING) {
            return REFUSED;
        }
        if (metPlace < fingerPlace) {
            fingerPlace--;
        }
        metPlace = NONE;
        return chainRow.count;
    }

    private int putAtFinger(int number) {
        if (!chainRow.put(fingerPlace, number)) {
            return FULL;
        }
        fingerPlace++;
        metPlace = NONE;
        return chainRow.count;
    }

    /** A row of at most MOST numbers, at the places 0 to count - 1. */
    private static final class Row {
        // Longer than MOST, so that turn can lay what it moves behind a full row.
        private final int[] numbers;
        private int count;

        private Row() {
            numbers = new int[MOST + MOST_TURNS];
            count = 0;
        }

        private boolean hasPlace(int place) {
            return place >= 0 && place < count;
        }

        private boolean hasPlaceOrEnd(int place) {
            return place >= 0 && place <= count;
        }

        private long at(int place) {
            return hasPlace(place) ? numbers[place] : NOTHING;
        }

        private boolean put(int place, int number) {
            if (count >= MOST || !hasPlaceOrEnd(place)) {
                return false;
            }
            System.arraycopy(numbers, place, numbers, place + 1, count - place);
            numbers[place] = number;
            count++;
            return true;
        }

        private long take(int place) {
            if (!hasPlace(place)) {
                return NOTHING;
            }
            int taken = numbers[place];
            count--;
            System.arraycopy(numbers, place + 1, numbers, place, count - place);
            return taken;
        }

        private long swap(int place, int number) {
            if (!hasPlace(place)) {
                return NOTHING;
            }
            int old = numbers[place];
            numbers[place] = number;
            return old;
        }

        private int wipe() {
            int gone = count;
            count = 0;
            return gone;
        }

        private int firstPlace(int number) {
            for (int i = 0; i < count; i++) {
                if (numbers[i] == number) {
                    return i;
                }
            }
            return NONE;
        }

        private int lastPlace(int number) {
            for (int i = count - 1; i >= 0; i--) {
                if (numbers[i] == number) {
                    return i;
                }
            }
            return NONE;
        }

        private int countBelow(int number) {
            int below = 0;
            for (int i = 0; i < count; i++) {
                if (numbers[i] < number) {
                    below++;
                }
            }
            return below;
        }

        private int takeRest(int step, int rest) {
            if (step < 1) {
                return REFUSED;
            }
            int kept = 0;
            for (int i = 0; i < count; i++) {
                if (Math.floorMod(numbers[i], step) != rest) {
                    numbers[kept] = numbers[i];
                    kept++;
                }
            }
            int gone = count - kept;
            count = kept;
            return gone;
        }

        private int turn(int n) {
            if (n < 0 || n > MOST_TURNS) {
                return REFUSED;
            }
            if (count > 0) {
                // After count turns the row is as it was.
                int moved = n % count;
                System.arraycopy(numbers, 0, numbers, count, moved);
                System.arraycopy(numbers, moved, numbers, 0, count);
            }
            return count;
        }

        private boolean takeAll(Row other, int place) {
            if (count + other.count > MOST || !hasPlaceOrEnd(place)) {
                return false;
            }
            System.arraycopy(numbers, place, numbers, place + other.count, count - place);
            System.arraycopy(other.numbers, 0, numbers, place, other.count);
            count += other.wipe();
            return true;
        }
    }
}
