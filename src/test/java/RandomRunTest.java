import java.util.Random;

/** Runs of 512 calls, good and bad ones, each answer compared with that of Model. */
public final class RandomRunTest {
    private static final int RUNS = 3000;
    private static final int CALLS = 512;
    private static final int[] ODD = {-1, 11, 21, 101, Integer.MIN_VALUE, Integer.MAX_VALUE};

    private final Random random;
    private final HostLeague x = new HostLeague();
    private final Model model = new Model();
    private final int kindOfRun;

    private RandomRunTest(int seed) {
        random = new Random(seed);
        kindOfRun = seed % 5;
    }

    public static void main(String[] args) {
        int sentOn = 0;
        int stranded = 0;
        int borrowed = 0;
        int burnt = 0;
        int kept = 0;
        int full = 0;
        int last = 0;
        for (int run = 0; run < RUNS && Check.wrongSoFar() < 10; run++) {
            RandomRunTest test = new RandomRunTest(run);
            test.run(run);
            sentOn += test.model.sentOn;
            stranded += test.model.stranded;
            borrowed += test.model.borrowedInAll;
            burnt += test.model.burntElsewhere;
            kept += test.model.keptByBroken;
            full += test.model.bookings.size() == 80 ? 1 : 0;
            last += test.model.tonight == 300 ? 1 : 0;
        }
        System.out.println("sent on " + sentOn + ", slept nowhere " + stranded + ", borrowed " + borrowed
                + ", burnt elsewhere " + burnt + ", kept by a broken laundry " + kept
                + "; runs with 80 bookings " + full + ", to night 300 " + last);
        Check.holds("the runs reach all there is", sentOn > 1000 && stranded > 1000 && borrowed > 1000
                && burnt > 1000 && kept > 1000 && full > 50 && last > 50);
        Check.finish("RandomRunTest");
    }

    private void run(int run) {
        int before = Check.wrongSoFar();
        for (int n = 0; n < CALLS && Check.wrongSoFar() == before; n++) {
            String at = "run " + run + ", call " + n + ", ";
            if (random.nextInt(100) < 72) {
                change(at);
            } else {
                ask(at);
            }
        }
    }

    /** Mostly a number from 0 to the end, now and then one beyond the ends. */
    private int pick(int end) {
        int odd = random.nextInt(60);
        if (odd == 0) {
            return ODD[random.nextInt(ODD.length)];
        }
        return odd == 1 ? end : random.nextInt(end);
    }

    private void same(String at, String call, int[] with, Check.Call want, Check.Call got) {
        Check.same(at + call + java.util.Arrays.toString(with), Check.outcome(want), Check.outcome(got));
    }

    private void change(String at) {
        int what = random.nextInt(100);
        // Runs of kind 4 hurry to night 300; those of kinds 0 and 1 linger, with few rooms.
        if (kindOfRun == 4 && what < 90) {
            what = 95;
        }
        if (kindOfRun < 2 && what >= 88 && what < 98 && random.nextInt(3) > 0) {
            what = 20;
        }
        if (what < 14) {
            int[] a = {pick(4), pick(2), pick(kindOfRun < 2 ? 3 : 11), 1 + pick(100)};
            same(at, "setRooms", a, () -> model.setRooms(a[0], a[1], a[2], a[3]),
                    () -> x.setRooms(a[0], a[1], a[2], a[3]));
        } else if (what < 18) {
            int[] a = {pick(4), pick(kindOfRun % 2 == 0 ? 3 : 22)};
            same(at, "buyLinen", a, () -> model.buyLinen(a[0], a[1]), () -> x.buyLinen(a[0], a[1]));
        } else if (what < 21) {
            boolean is = random.nextInt(2) == 0;
            same(at, "setBroken" + is, new int[0], () -> model.setBroken(is) ? 1 : 0, () -> x.setBroken(is) ? 1 : 0);
        } else if (what < 52) {
            int[] a = {pick(10), pick(4), pick(2), model.tonight + pick(kindOfRun + 1)};
            same(at, "book", a, () -> model.book(a[0], a[1], a[2], a[3]), () -> x.book(a[0], a[1], a[2], a[3]));
        } else if (what < 82) {
            int[] a = {bookingToCome()};
            same(at, "come", a, () -> model.come(a[0]), () -> x.come(a[0]));
        } else if (what < 88) {
            int[] a = {pick(10), pick(4), pick(12)};
            same(at, "burn", a, () -> model.burn(a[0], a[1], a[2]), () -> x.burn(a[0], a[1], a[2]));
        } else if (what < 98) {
            same(at, "night", new int[0], () -> model.night(), () -> x.night());
        } else {
            same(at, "settle", new int[0], () -> model.settle(), () -> x.settle());
        }
    }

    /** Mostly one of this night, which may have come already. */
    private int bookingToCome() {
        int many = model.bookings.size();
        int start = pick(many + 1);
        if (start < 0 || start >= many || random.nextInt(10) == 0) {
            return start;
        }
        for (int n = 0; n < many; n++) {
            int booking = (start + n) % many;
            if (model.bookings.get(booking).night == model.tonight) {
                return booking;
            }
        }
        return start;
    }

    private void ask(String at) {
        int[] a = {pick(4), pick(2)};
        int[] g = {pick(10)};
        switch (random.nextInt(12)) {
            case 0 -> same(at, "today", new int[0], () -> model.tonight, () -> x.today());
            case 1 -> same(at, "bookings", new int[0], () -> model.bookings.size(), () -> x.bookings());
            case 2 -> same(at, "free", a, () -> model.free(a[0], a[1]), () -> x.free(a[0], a[1]));
            case 3 -> same(at, "taken", a, () -> model.takenByBookings(a[0], a[1]), () -> x.taken(a[0], a[1]));
            case 4 -> same(at, "takenByBookings", a, () -> model.takenByBookings(a[0], a[1]),
                    () -> x.takenByBookings(a[0], a[1]));
            case 5 -> same(at, "extra", a, () -> model.extra(a[0]), () -> x.extra(a[0]));
            case 6 -> same(at, "clean", a, () -> model.clean(a[0]), () -> x.clean(a[0]));
            case 7 -> same(at, "away", a, () -> model.away(a[0]), () -> x.away(a[0]));
            case 8 -> {
                int[] b = {pick(model.bookings.size() + 1)};
                same(at, "sleeps", b, () -> model.sleeps(b[0]), () -> x.sleeps(b[0]));
            }
            case 9 -> same(at, "points", g, () -> model.points(g[0]), () -> x.points(g[0]));
            case 10 -> {
                int[] o = {a[0], pick(4)};
                same(at, "owes", o, () -> model.owes(o[0], o[1]), () -> x.owes(o[0], o[1]));
            }
            default -> same(at, "purse", a, () -> model.purse(a[0]), () -> x.purse(a[0]));
        }
    }
}
