/** A league of four inns that send guests on to one another; README.md says where its promises stand. */
public final class HostLeague {
    private static final int INNS = 4;
    private static final int KINDS = 2;
    private static final int GUESTS = 10;
    private static final int MOST_ROOMS = 10;
    private static final int FIRST_PRICE = 10;
    private static final int MOST_PRICE = 100;
    private static final int MOST_SETS_BOUGHT = 20;
    private static final int MOST_BOOKINGS = 80;
    private static final int NIGHTS_AHEAD = 10;
    private static final int LAST_NIGHT = 300;
    private static final int NIGHTS_OF_EXTRA = 4;
    private static final int MISSED_PER_EXTRA = 4;
    private static final int COINS_PER_POINT = 10;
    private static final int MOST_POINTS_BURNT = 100;
    private static final int NO_INN = -1;

    private final Rooms allRooms;
    private final Linen linen;
    private final Bookings booked;
    private final Points earned;
    private final Debts debts;
    private int tonight;

    public HostLeague() {
        allRooms = new Rooms();
        linen = new Linen();
        booked = new Bookings();
        earned = new Points();
        debts = new Debts();
        tonight = 0;
    }

    // ---- inns and linen

    public int setRooms(int inn, int kind, int rooms, int price)
            throws IndexOutOfBoundsException, IllegalArgumentException {
        checkInn(inn);
        checkKind(kind);
        checkRange(rooms, 0, MOST_ROOMS);
        checkRange(price, 1, MOST_PRICE);
        return allRooms.change(inn, kind, rooms, price);
    }

    public int buyLinen(int inn, int sets) throws IndexOutOfBoundsException, IllegalArgumentException {
        checkInn(inn);
        checkRange(sets, 1, MOST_SETS_BOUGHT);
        return linen.addClean(inn, sets);
    }

    public boolean setBroken(boolean isBroken) {
        return linen.changeBroken(isBroken);
    }

    // ---- bookings and guests

    public int book(int guest, int inn, int kind, int night)
            throws IndexOutOfBoundsException, IllegalArgumentException, IllegalStateException {
        checkGuest(guest);
        checkInn(inn);
        checkKind(kind);
        checkRange(night, tonight, tonight + NIGHTS_AHEAD);
        if (booked.isFull() || !takesMore(inn, kind, night)) {
            throw new IllegalStateException("no more bookings are taken");
        }
        return booked.add(guest, inn, kind, night);
    }

    public int come(int booking) throws IndexOutOfBoundsException, IllegalStateException {
        checkBooking(booking);
        if (booked.nights[booking] != tonight || booked.came[booking]) {
            throw new IllegalStateException("not the night of the booking, or its guest has come");
        }
        int inn = findInn(booked.inns[booking], booked.kinds[booking]);
        booked.arrive(booking, inn);
        if (inn != NO_INN) {
            putUp(booking, inn);
        }
        return inn;
    }

    public int burn(int guest, int inn, int points)
            throws IndexOutOfBoundsException, IllegalArgumentException, IllegalStateException {
        checkGuest(guest);
        checkInn(inn);
        checkRange(points, 1, MOST_POINTS_BURNT);
        if (earned.ofGuest(guest) < points) {
            throw new IllegalStateException("the guest does not have so many points");
        }
        burnEarliest(guest, inn, points);
        return earned.ofGuest(guest);
    }

    public int night() throws IllegalStateException {
        if (tonight >= LAST_NIGHT) {
            throw new IllegalStateException("the last night does not end");
        }
        int missed = booked.missedIn(tonight);
        allRooms.endNight();
        linen.endNight();
        tonight++;
        return missed;
    }

    public int settle() {
        return debts.payAll();
    }

    // ---- what there is; nothing from here on changes anything

    public int today() {
        return tonight;
    }

    public int bookings() {
        return booked.count;
    }

    public int free(int inn, int kind) throws IndexOutOfBoundsException {
        checkInn(inn);
        checkKind(kind);
        return allRooms.freeOf(inn, kind);
    }

    public int taken(int inn, int kind) throws IndexOutOfBoundsException {
        checkInn(inn);
        checkKind(kind);
        return allRooms.sleepersOf(inn, kind);
    }

    public int takenByBookings(int inn, int kind) throws IndexOutOfBoundsException {
        checkInn(inn);
        checkKind(kind);
        return booked.sleepersAt(inn, kind, tonight);
    }

    public int extra(int inn) throws IndexOutOfBoundsException {
        checkInn(inn);
        return extraOf(inn);
    }

    public int clean(int inn) throws IndexOutOfBoundsException {
        checkInn(inn);
        return linen.clean[inn];
    }

    public int away(int inn) throws IndexOutOfBoundsException {
        checkInn(inn);
        return linen.awayOf(inn);
    }

    public int sleeps(int booking) throws IndexOutOfBoundsException {
        checkBooking(booking);
        return booked.beds[booking];
    }

    public int points(int guest) throws IndexOutOfBoundsException {
        checkGuest(guest);
        return earned.ofGuest(guest);
    }

    public int owes(int inn, int other) throws IndexOutOfBoundsException {
        checkInn(inn);
        checkInn(other);
        return debts.between(inn, other);
    }

    public int purse(int inn) throws IndexOutOfBoundsException {
        checkInn(inn);
        return debts.purses[inn];
    }

    // ---- what is tested before anything changes

    private static void checkInn(int inn) {
        if (inn < 0 || inn >= INNS) {
            throw new IndexOutOfBoundsException("no such inn");
        }
    }

    private static void checkKind(int kind) {
        if (kind < 0 || kind >= KINDS) {
            throw new IndexOutOfBoundsException("no such kind");
        }
    }

    private static void checkGuest(int guest) {
        if (guest < 0 || guest >= GUESTS) {
            throw new IndexOutOfBoundsException("no such guest");
        }
    }

    private void checkBooking(int booking) {
        if (booking < 0 || booking >= booked.count) {
            throw new IndexOutOfBoundsException("no such booking");
        }
    }

    private static void checkRange(int value, int least, int most) {
        if (value < least || value > most) {
            throw new IllegalArgumentException("out of range");
        }
    }

    // ---- what needs more than one of the parts

    private int extraOf(int inn) {
        return booked.missedAt(inn, tonight - NIGHTS_OF_EXTRA, tonight) / MISSED_PER_EXTRA;
    }

    private boolean takesMore(int inn, int kind, int night) {
        return booked.countFor(inn, kind, night) < allRooms.countOf(inn, kind) + extraOf(inn);
    }

    private static int distance(int inn, int other) {
        int difference = Math.abs(inn - other);
        return Math.min(difference, INNS - difference);
    }

    /** The nearest inn with a free room and linen for it; the inn of the booking is nearest to itself. */
    private int findInn(int home, int kind) {
        for (int far = 0; far <= INNS / 2; far++) {
            for (int inn = 0; inn < INNS; inn++) {
                if (distance(home, inn) == far && allRooms.freeOf(inn, kind) > 0 && linen.giverFor(inn) != NO_INN) {
                    return inn;
                }
            }
        }
        return NO_INN;
    }

    private void putUp(int booking, int inn) {
        int home = booked.inns[booking];
        int kind = booked.kinds[booking];
        int priceHere = allRooms.priceOf(inn, kind);
        debts.receive(home, allRooms.priceOf(home, kind));
        if (inn != home) {
            debts.owe(home, inn, priceHere);
        }
        layLinen(inn);
        allRooms.addSleeper(inn, kind);
        earned.add(booked.guests[booking], inn, priceHere / COINS_PER_POINT);
    }

    private void layLinen(int inn) {
        int giver = linen.giverFor(inn);
        // findInn names no inn without a giver; the test is here for the index alone.
        if (giver == NO_INN) {
            return;
        }
        if (giver != inn) {
            debts.owe(inn, giver, linen.chargeForBorrowing());
        }
        linen.take(inn, giver);
    }

    private void burnEarliest(int guest, int inn, int points) {
        int open = points;
        for (int lot = 0; lot < earned.lots && open > 0; lot++) {
            int burnt = earned.takeFrom(lot, guest, open);
            open -= burnt;
            if (earned.inns[lot] != inn) {
                debts.owe(earned.inns[lot], inn, burnt);
            }
        }
    }

    /** Rooms, prices and sleepers of this night by inn and kind. */
    private static final class Rooms {
        final int[] counts;
        final int[] prices;
        final int[] sleepers;

        Rooms() {
            counts = new int[INNS * KINDS];
            prices = new int[INNS * KINDS];
            sleepers = new int[INNS * KINDS];
            for (int row = 0; row < INNS * KINDS; row++) {
                prices[row] = FIRST_PRICE;
            }
        }

        static int row(int inn, int kind) {
            return inn * KINDS + kind;
        }

        int countOf(int inn, int kind) {
            return counts[row(inn, kind)];
        }

        int priceOf(int inn, int kind) {
            return prices[row(inn, kind)];
        }

        int sleepersOf(int inn, int kind) {
            return sleepers[row(inn, kind)];
        }

        int freeOf(int inn, int kind) {
            // Rooms may be taken away while guests sleep in them.
            return Math.max(0, countOf(inn, kind) - sleepersOf(inn, kind));
        }

        int change(int inn, int kind, int count, int price) {
            int row = row(inn, kind);
            int before = counts[row];
            counts[row] = count;
            prices[row] = price;
            return before;
        }

        void addSleeper(int inn, int kind) {
            sleepers[row(inn, kind)]++;
        }

        void endNight() {
            for (int row = 0; row < INNS * KINDS; row++) {
                sleepers[row] = 0;
            }
        }
    }

    /** Sets of linen by inn: clean, taken this night, or in the laundry. */
    private static final class Linen {
        final int[] clean;
        final int[] used;
        final int[] brought;
        final int[] washedOneNight;
        final int[] due;
        boolean broken;
        int borrowedTonight;

        Linen() {
            clean = new int[INNS];
            used = new int[INNS];
            brought = new int[INNS];
            washedOneNight = new int[INNS];
            due = new int[INNS];
            broken = false;
            borrowedTonight = 0;
        }

        int addClean(int inn, int sets) {
            clean[inn] += sets;
            return clean[inn];
        }

        boolean changeBroken(boolean isBroken) {
            boolean before = broken;
            broken = isBroken;
            return before;
        }

        int awayOf(int inn) {
            return used[inn] + brought[inn] + washedOneNight[inn] + due[inn];
        }

        /** The inn whose clean set a guest at this inn gets: its own, else that with the most. */
        int giverFor(int inn) {
            if (clean[inn] > 0) {
                return inn;
            }
            int giver = NO_INN;
            int most = 0;
            for (int other = 0; other < INNS; other++) {
                if (clean[other] > most) {
                    giver = other;
                    most = clean[other];
                }
            }
            return giver;
        }

        int chargeForBorrowing() {
            return 1 + borrowedTonight;
        }

        void take(int inn, int giver) {
            clean[giver]--;
            used[inn]++;
            if (giver != inn) {
                borrowedTonight++;
            }
        }

        void endNight() {
            for (int inn = 0; inn < INNS; inn++) {
                due[inn] += washedOneNight[inn];
                washedOneNight[inn] = brought[inn];
                brought[inn] = used[inn];
                used[inn] = 0;
                if (!broken) {
                    clean[inn] += due[inn];
                    due[inn] = 0;
                }
            }
            borrowedTonight = 0;
        }
    }

    /** All bookings, in the order of their numbers. */
    private static final class Bookings {
        final int[] guests;
        final int[] inns;
        final int[] kinds;
        final int[] nights;
        final boolean[] came;
        final int[] beds;
        int count;

        Bookings() {
            guests = new int[MOST_BOOKINGS];
            inns = new int[MOST_BOOKINGS];
            kinds = new int[MOST_BOOKINGS];
            nights = new int[MOST_BOOKINGS];
            came = new boolean[MOST_BOOKINGS];
            beds = new int[MOST_BOOKINGS];
            count = 0;
        }

        boolean isFull() {
            return count >= MOST_BOOKINGS;
        }

        int add(int guest, int inn, int kind, int night) {
            int booking = count;
            guests[booking] = guest;
            inns[booking] = inn;
            kinds[booking] = kind;
            nights[booking] = night;
            beds[booking] = NO_INN;
            count++;
            return booking;
        }

        void arrive(int booking, int bed) {
            came[booking] = true;
            beds[booking] = bed;
        }

        int countFor(int inn, int kind, int night) {
            int found = 0;
            for (int b = 0; b < count; b++) {
                if (inns[b] == inn && kinds[b] == kind && nights[b] == night) {
                    found++;
                }
            }
            return found;
        }

        int missedIn(int night) {
            int found = 0;
            for (int b = 0; b < count; b++) {
                if (nights[b] == night && !came[b]) {
                    found++;
                }
            }
            return found;
        }

        /** How many did not come to the inn in the nights from the first one to that before the end. */
        int missedAt(int inn, int first, int end) {
            int found = 0;
            for (int b = 0; b < count; b++) {
                if (inns[b] == inn && nights[b] >= first && nights[b] < end && !came[b]) {
                    found++;
                }
            }
            return found;
        }

        int sleepersAt(int bed, int kind, int night) {
            int found = 0;
            for (int b = 0; b < count; b++) {
                if (beds[b] == bed && kinds[b] == kind && nights[b] == night) {
                    found++;
                }
            }
            return found;
        }
    }

    /** Points in lots, one for each sleep, the earliest first. */
    private static final class Points {
        final int[] guests;
        final int[] inns;
        final int[] left;
        int lots;

        Points() {
            guests = new int[MOST_BOOKINGS];
            inns = new int[MOST_BOOKINGS];
            left = new int[MOST_BOOKINGS];
            lots = 0;
        }

        void add(int guest, int inn, int points) {
            // A booking earns once at most, so the rows suffice; the test is here for the index alone.
            if (lots >= MOST_BOOKINGS) {
                return;
            }
            guests[lots] = guest;
            inns[lots] = inn;
            left[lots] = points;
            lots++;
        }

        int ofGuest(int guest) {
            int sum = 0;
            for (int lot = 0; lot < lots; lot++) {
                if (guests[lot] == guest) {
                    sum += left[lot];
                }
            }
            return sum;
        }

        /** Takes up to so many points from a lot if it is the guest's, and says how many. */
        int takeFrom(int lot, int guest, int most) {
            if (guests[lot] != guest) {
                return 0;
            }
            int taken = Math.min(left[lot], most);
            left[lot] -= taken;
            return taken;
        }
    }

    /** What inns have, and what of each two the one owes the other. */
    private static final class Debts {
        final int[] purses;
        /** In the row of an inn and another one: what is left that it owes that one; below 0, what it is owed. */
        final int[] balances;

        Debts() {
            purses = new int[INNS];
            balances = new int[INNS * INNS];
        }

        static int row(int inn, int other) {
            return inn * INNS + other;
        }

        void receive(int inn, int coins) {
            purses[inn] += coins;
        }

        void owe(int inn, int other, int coins) {
            balances[row(inn, other)] += coins;
            balances[row(other, inn)] -= coins;
        }

        int between(int inn, int other) {
            return Math.max(0, balances[row(inn, other)]);
        }

        int payAll() {
            int paid = 0;
            for (int inn = 0; inn < INNS; inn++) {
                for (int other = 0; other < INNS; other++) {
                    paid += pay(inn, other);
                }
            }
            return paid;
        }

        int pay(int inn, int other) {
            int coins = between(inn, other);
            purses[inn] -= coins;
            purses[other] += coins;
            owe(other, inn, coins);
            return coins;
        }
    }
}
