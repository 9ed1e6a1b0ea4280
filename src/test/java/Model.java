import java.util.ArrayList;
import java.util.List;

/**
 * The document once more, by other means than the program: single sets of linen, single points,
 * debts that are never netted. RandomRunTest compares the two.
 */
final class Model {
    static final class Booking {
        int guest;
        int inn;
        int kind;
        int night;
        boolean came;
        int bed = -1;
    }

    static final class LinenSet {
        int owner;
        int takenIn = -1;
    }

    static final class Point {
        int guest;
        int inn;
    }

    final int[][] rooms = new int[4][2];
    final int[][] prices = {{10, 10}, {10, 10}, {10, 10}, {10, 10}};
    final List<Booking> bookings = new ArrayList<>();
    final List<LinenSet> sets = new ArrayList<>();
    final List<Point> points = new ArrayList<>();
    final int[][] owed = new int[4][4];
    final int[] purses = new int[4];
    boolean broken;
    int borrowed;
    int tonight;

    int sentOn;
    int stranded;
    int borrowedInAll;
    int burntElsewhere;
    int keptByBroken;

    private static void need(boolean holds, RuntimeException otherwise) {
        if (!holds) {
            throw otherwise;
        }
    }

    private static void index(int value, int end) {
        need(value >= 0 && value < end, new IndexOutOfBoundsException());
    }

    private static void range(int value, int least, int most) {
        need(value >= least && value <= most, new IllegalArgumentException());
    }

    int setRooms(int inn, int kind, int count, int price) {
        index(inn, 4);
        index(kind, 2);
        range(count, 0, 10);
        range(price, 1, 100);
        int before = rooms[inn][kind];
        rooms[inn][kind] = count;
        prices[inn][kind] = price;
        return before;
    }

    int buyLinen(int inn, int count) {
        index(inn, 4);
        range(count, 1, 20);
        for (int n = 0; n < count; n++) {
            LinenSet set = new LinenSet();
            set.owner = inn;
            sets.add(set);
        }
        return clean(inn);
    }

    boolean setBroken(boolean is) {
        boolean before = broken;
        broken = is;
        return before;
    }

    int book(int guest, int inn, int kind, int night) {
        index(guest, 10);
        index(inn, 4);
        index(kind, 2);
        range(night, tonight, tonight + 10);
        need(bookings.size() < 80, new IllegalStateException());
        int there = 0;
        for (Booking b : bookings) {
            there += b.inn == inn && b.kind == kind && b.night == night ? 1 : 0;
        }
        need(there < rooms[inn][kind] + extra(inn), new IllegalStateException());
        Booking made = new Booking();
        made.guest = guest;
        made.inn = inn;
        made.kind = kind;
        made.night = night;
        bookings.add(made);
        return bookings.size() - 1;
    }

    int come(int number) {
        index(number, bookings.size());
        Booking b = bookings.get(number);
        need(b.night == tonight && !b.came, new IllegalStateException());
        b.came = true;
        int opposite = (b.inn + 2) % 4;
        int left = (b.inn + 3) % 4;
        int right = (b.inn + 1) % 4;
        int[] order = {b.inn, Math.min(left, right), Math.max(left, right), opposite};
        boolean linen = clean(0) + clean(1) + clean(2) + clean(3) > 0;
        for (int inn : order) {
            if (linen && b.bed == -1 && free(inn, b.kind) > 0) {
                sleep(b, inn);
            }
        }
        stranded += b.bed == -1 ? 1 : 0;
        return b.bed;
    }

    private void sleep(Booking b, int inn) {
        b.bed = inn;
        purses[b.inn] += prices[b.inn][b.kind];
        if (inn != b.inn) {
            sentOn++;
            owed[b.inn][inn] += prices[inn][b.kind];
        }
        int giver = inn;
        if (clean(inn) == 0) {
            giver = 0;
            for (int other = 1; other < 4; other++) {
                giver = clean(other) > clean(giver) ? other : giver;
            }
            borrowed++;
            borrowedInAll++;
            owed[inn][giver] += borrowed;
        }
        LinenSet taken = null;
        for (LinenSet set : sets) {
            taken = set.owner == giver && set.takenIn == -1 ? set : taken;
        }
        taken.owner = inn;
        taken.takenIn = tonight;
        for (int n = 10; n <= prices[inn][b.kind]; n += 10) {
            Point point = new Point();
            point.guest = b.guest;
            point.inn = inn;
            points.add(point);
        }
    }

    int burn(int guest, int inn, int count) {
        index(guest, 10);
        index(inn, 4);
        range(count, 1, 100);
        need(points(guest) >= count, new IllegalStateException());
        int open = count;
        for (int n = 0; open > 0; n++) {
            Point point = points.get(n);
            if (point.guest == guest) {
                owed[point.inn][inn]++;
                burntElsewhere += point.inn != inn ? 1 : 0;
                points.remove(n);
                n--;
                open--;
            }
        }
        return points(guest);
    }

    int night() {
        need(tonight != 300, new IllegalStateException());
        int missed = 0;
        for (Booking b : bookings) {
            missed += b.night == tonight && !b.came ? 1 : 0;
        }
        for (LinenSet set : sets) {
            if (set.takenIn != -1 && tonight >= set.takenIn + 2) {
                keptByBroken += broken ? 1 : 0;
                set.takenIn = broken ? set.takenIn : -1;
            }
        }
        tonight++;
        borrowed = 0;
        return missed;
    }

    int settle() {
        int paid = 0;
        for (int a = 0; a < 4; a++) {
            for (int b = 0; b < 4; b++) {
                purses[a] += owed[b][a] - owed[a][b];
                paid += owes(a, b);
            }
        }
        for (int[] row : owed) {
            java.util.Arrays.fill(row, 0);
        }
        return paid;
    }

    int free(int inn, int kind) {
        int free = rooms[inn(inn)][kind(kind)] - takenByBookings(inn, kind);
        return free < 0 ? 0 : free;
    }

    int takenByBookings(int inn, int kind) {
        inn(inn);
        kind(kind);
        int count = 0;
        for (Booking b : bookings) {
            count += b.bed == inn && b.kind == kind && b.night == tonight ? 1 : 0;
        }
        return count;
    }

    int extra(int inn) {
        inn(inn);
        int count = 0;
        for (Booking b : bookings) {
            int over = tonight - b.night;
            count += b.inn == inn && !b.came && over >= 1 && over <= 4 ? 1 : 0;
        }
        return count / 4;
    }

    int clean(int inn) {
        inn(inn);
        int count = 0;
        for (LinenSet set : sets) {
            count += set.owner == inn && set.takenIn == -1 ? 1 : 0;
        }
        return count;
    }

    int away(int inn) {
        inn(inn);
        int count = 0;
        for (LinenSet set : sets) {
            count += set.owner == inn && set.takenIn != -1 ? 1 : 0;
        }
        return count;
    }

    int sleeps(int number) {
        index(number, bookings.size());
        return bookings.get(number).bed;
    }

    int points(int guest) {
        index(guest, 10);
        int count = 0;
        for (Point point : points) {
            count += point.guest == guest ? 1 : 0;
        }
        return count;
    }

    int owes(int inn, int other) {
        int net = owed[inn(inn)][inn(other)] - owed[other][inn];
        return net > 0 ? net : 0;
    }

    int purse(int inn) {
        return purses[inn(inn)];
    }

    private static int inn(int inn) {
        index(inn, 4);
        return inn;
    }

    private static int kind(int kind) {
        index(kind, 2);
        return kind;
    }
}
