/** The boundary cases of the promises 10 to 21: a test for each line below their headings. */
final class EdgesOfQuestions {
    private EdgesOfQuestions() {
    }

    static void run(Sentences s) {
        s.test("Promise 10", "Returns the night of now.", EdgesOfQuestions::todayFirstToLast);
        s.test("Promise 11", "Returns how many bookings were made.", EdgesOfQuestions::bookingsNoneToAll);

        s.test("Promise 12", "Returns how many rooms of a kind are free at an inn.", EdgesOfQuestions::freeAllToNone);
        s.test("Promise 12", "Returns the number, at least 0.", EdgesOfQuestions::freeAtLeastZero);
        s.test("Promise 12", "Throws `IndexOutOfBoundsException`", EdgesOfQuestions::freeIndex);

        s.test("Promise 13", "Returns how many guests sleep in rooms of a kind", EdgesOfQuestions::takenNoneToAll);
        s.test("Promise 13", "Throws `IndexOutOfBoundsException`", EdgesOfQuestions::takenIndex);

        s.test("Promise 14", "Returns the same, counted by all bookings.", EdgesOfQuestions::countedByTheFirstAndLast);
        s.test("Promise 14", "Throws `IndexOutOfBoundsException`", EdgesOfQuestions::takenByBookingsIndex);

        s.test("Promise 15", "Returns the extra of an inn.", EdgesOfQuestions::extraNoneToMost);
        s.test("Promise 15", "Throws `IndexOutOfBoundsException`", EdgesOfQuestions::extraIndex);

        s.test("Promise 16", "Returns how many clean sets of linen an inn has.",
                EdgesOfQuestions::cleanFromNoneAndBack);
        s.test("Promise 16", "Throws `IndexOutOfBoundsException`", EdgesOfQuestions::cleanIndex);

        s.test("Promise 17", "are taken or in the laundry", EdgesOfQuestions::awayTakenOrInTheLaundry);
        s.test("Promise 17", "Throws `IndexOutOfBoundsException`", EdgesOfQuestions::awayIndex);

        s.test("Promise 18", "Returns where the guest of a booking sleeps, or slept.", EdgesOfQuestions::sleepsOrSlept);
        s.test("Promise 18", "-1 if it sleeps nowhere, or has not come", EdgesOfQuestions::sleepsNowhere);
        s.test("Promise 18", "Throws `IndexOutOfBoundsException`", EdgesOfQuestions::sleepsIndex);

        s.test("Promise 19", "Returns how many points a guest has.", EdgesOfQuestions::pointsNoneToMost);
        s.test("Promise 19", "Throws `IndexOutOfBoundsException`", EdgesOfQuestions::pointsIndex);

        s.test("Promise 20", "Returns what an inn owes another one.", EdgesOfQuestions::owesEachTheOther);
        s.test("Promise 20", "Returns the coins; 0 if it owes nothing.", EdgesOfQuestions::owesNothing);
        s.test("Promise 20", "Throws `IndexOutOfBoundsException`", EdgesOfQuestions::owesIndex);

        s.test("Promise 21", "Returns what an inn has, debts left aside.", EdgesOfQuestions::purseLeavesDebtsAside);
        s.test("Promise 21", "Throws `IndexOutOfBoundsException`", EdgesOfQuestions::purseIndex);
    }

    // ---- the league as a whole

    private static void todayFirstToLast() {
        HostLeague x = new HostLeague();
        for (int n = 0; n < 300; n += 2) {
            int night = n;
            Check.due("night", night, () -> x.today());
            Scenes.nights(x, 2);
        }
        HostLeague y = Scenes.lastNight();
        Check.due("the last one", 300, () -> y.today());
        Check.refuses("does not end", Check.STATE, () -> y.night());
        Check.due("the last one still", 300, () -> y.today());
    }

    private static void bookingsNoneToAll() {
        HostLeague x = Scenes.withRooms(10, 10);
        for (int n = 0; n < 80; n++) {
            int made = n;
            Check.due("made", made, () -> x.bookings());
            x.book(0, made % 4, made / 4 % 2, 0);
        }
        Check.due("all", 80, () -> x.bookings());
        Check.refuses("one too many", Check.STATE, () -> x.book(0, 0, 0, 1));
        Check.due("none is added", 80, () -> x.bookings());
        x.come(0);
        x.night();
        Check.due("none is taken away", 80, () -> x.bookings());
    }

    // ---- rooms

    private static void freeAllToNone() {
        HostLeague x = new HostLeague();
        Check.due("no rooms", 0, () -> x.free(3, 1));
        x.setRooms(3, 1, 10, 10);
        x.buyLinen(0, 10);
        for (int n = 0; n < 10; n++) {
            int left = 10 - n;
            Check.due("left", left, () -> x.free(3, 1));
            x.come(x.book(n, 3, 1, 0));
        }
        Check.due("none is left", 0, () -> x.free(3, 1));
        x.night();
        Check.due("all again", 10, () -> x.free(3, 1));
    }

    private static void freeAtLeastZero() {
        HostLeague x = Scenes.withRoomsAndLinen(2, 10, 2);
        Scenes.comeNow(x, 0, 0);
        Scenes.comeNow(x, 0, 0);
        for (int rooms = 2; rooms >= 0; rooms--) {
            x.setRooms(0, 0, rooms, 10);
            Check.due("none is free", 0, () -> x.free(0, 0));
        }
        x.setRooms(0, 0, 3, 10);
        Check.due("one is", 1, () -> x.free(0, 0));
    }

    private static void freeIndex() {
        Refused.beyond("inn", 0, 3, Check.INDEX, Scenes::busy, (x, inn) -> x.free(inn, 1));
        Refused.beyond("kind", 0, 1, Check.INDEX, Scenes::busy, (x, kind) -> x.free(3, kind));
    }

    private static void takenNoneToAll() {
        for (int r = 0; r < 8; r++) {
            int row = r;
            HostLeague x = Scenes.withRoomsAndLinen(10, 10, 20);
            for (int n = 0; n < 10; n++) {
                x.come(x.book(n, row / 2, row % 2, 0));
            }
            for (int o = 0; o < 8; o++) {
                int other = o;
                Check.due("taken", other == row ? 10 : 0, () -> x.taken(other / 2, other % 2));
            }
            x.night();
            Check.due("none in another night", 0, () -> x.taken(row / 2, row % 2));
        }
    }

    private static void takenIndex() {
        Refused.beyond("inn", 0, 3, Check.INDEX, Scenes::busy, (x, inn) -> x.taken(inn, 1));
        Refused.beyond("kind", 0, 1, Check.INDEX, Scenes::busy, (x, kind) -> x.taken(3, kind));
    }

    private static void countedByTheFirstAndLast() {
        HostLeague x = Scenes.fullOfBookings();
        Check.due("none has come", 0, () -> x.takenByBookings(0, 0));
        x.come(0);
        x.come(79);
        Check.due("by the first booking", 1, () -> x.takenByBookings(0, 0));
        Check.due("by the last booking", 1, () -> x.takenByBookings(3, 1));
        for (int row = 1; row < 7; row++) {
            int other = row;
            Check.due("nobody else", 0, () -> x.takenByBookings(other / 2, other % 2));
        }
        for (int booking = 70; booking < 79; booking++) {
            x.come(booking);
        }
        Check.due("all rooms", 10, () -> x.takenByBookings(3, 1));
        x.night();
        Check.due("none in another night", 0, () -> x.takenByBookings(3, 1));
    }

    private static void takenByBookingsIndex() {
        Refused.beyond("inn", 0, 3, Check.INDEX, Scenes::busy, (x, inn) -> x.takenByBookings(inn, 1));
        Refused.beyond("kind", 0, 1, Check.INDEX, Scenes::busy, (x, kind) -> x.takenByBookings(3, kind));
    }

    private static void extraNoneToMost() {
        HostLeague x = new HostLeague();
        for (int i = 0; i < 4; i++) {
            int inn = i;
            Check.due("none of a new one", 0, () -> x.extra(inn));
        }
        x.setRooms(2, 0, 10, 10);
        x.setRooms(2, 1, 10, 10);
        for (int n = 0; n < 80; n++) {
            x.book(0, 2, n % 2, n / 20);
        }
        int[] want = {0, 5, 10, 15, 20, 15, 10, 5, 0, 0};
        for (int n = 0; n < want.length; n++) {
            int night = n;
            Check.due("in the night " + night, want[night], () -> x.extra(2));
            Check.due("of another inn", 0, () -> x.extra(3));
            x.night();
        }
    }

    private static void extraIndex() {
        Refused.beyond("inn", 0, 3, Check.INDEX, Scenes::busy, (x, inn) -> x.extra(inn));
    }

    // ---- linen

    private static void cleanFromNoneAndBack() {
        HostLeague x = Scenes.withRooms(2, 10);
        Check.due("none", 0, () -> x.clean(3));
        x.buyLinen(3, 1);
        Check.due("one", 1, () -> x.clean(3));
        Scenes.comeNow(x, 0, 3);
        for (int n = 0; n < 3; n++) {
            Check.due("none while it is away", 0, () -> x.clean(3));
            x.night();
        }
        Check.due("one again", 1, () -> x.clean(3));
    }

    private static void cleanIndex() {
        Refused.beyond("inn", 0, 3, Check.INDEX, Scenes::busy, (x, inn) -> x.clean(inn));
    }

    /** A set in each place where it can be: taken, two nights in the laundry, and due in a broken one. */
    private static void awayTakenOrInTheLaundry() {
        HostLeague x = Scenes.withRooms(2, 10);
        x.buyLinen(1, 5);
        Check.due("none", 0, () -> x.away(1));
        x.setBroken(true);
        for (int n = 1; n <= 5; n++) {
            Scenes.comeNow(x, 0, 1);
            int away = n;
            Check.due("away", away, () -> x.away(1));
            x.night();
            Check.due("still away", away, () -> x.away(1));
        }
        x.setBroken(false);
        int[] want = {1, 0, 0};
        for (int left : want) {
            x.night();
            Check.due("left", left, () -> x.away(1));
        }
        Check.due("all are back", 5, () -> x.clean(1));
    }

    private static void awayIndex() {
        Refused.beyond("inn", 0, 3, Check.INDEX, Scenes::busy, (x, inn) -> x.away(inn));
    }

    // ---- guests and coins

    private static void sleepsOrSlept() {
        for (int i = 0; i < 4; i++) {
            int inn = i;
            HostLeague x = Scenes.withRoomsAndLinen(2, 10, 1);
            Scenes.comeNow(x, 0, inn);
            Check.due("sleeps", inn, () -> x.sleeps(0));
            Scenes.nights(x, 300);
            Check.due("slept", inn, () -> x.sleeps(0));
        }
    }

    private static void sleepsNowhere() {
        HostLeague x = Scenes.withRooms(2, 10);
        x.book(0, 0, 0, 0);
        x.book(1, 0, 0, 0);
        x.book(2, 0, 0, 1);
        x.come(0);
        for (int n = 0; n < 2; n++) {
            Check.due("sleeps nowhere", -1, () -> x.sleeps(0));
            Check.due("has not come", -1, () -> x.sleeps(1));
            Check.due("can not come yet", -1, () -> x.sleeps(2));
            x.night();
        }
        Check.due("never came", -1, () -> x.sleeps(2));
    }

    private static void sleepsIndex() {
        Refused.beyond("booking", 0, 18, Check.INDEX, Scenes::busy, (x, booking) -> x.sleeps(booking));
        Refused.beyond("booking", 0, 79, Check.INDEX, Scenes::fullOfBookings, (x, booking) -> x.sleeps(booking));
        Refused.index("none made", HostLeague::new, x -> x.sleeps(0));
    }

    private static void pointsNoneToMost() {
        HostLeague x = Scenes.withRoomsAndLinen(10, 100, 20);
        for (int n = 0; n < 80; n++) {
            int before = n * 10;
            Check.due("points", before, () -> x.points(9));
            x.come(x.book(9, n / 20, n % 2, 0));
        }
        Check.due("the most", 800, () -> x.points(9));
        Check.due("another guest's", 0, () -> x.points(0));
        for (int left = 700; left >= 0; left -= 100) {
            x.burn(9, 0, 100);
            int want = left;
            Check.due("after a hundred", want, () -> x.points(9));
        }
    }

    private static void pointsIndex() {
        Refused.beyond("guest", 0, 9, Check.INDEX, Scenes::busy, (x, guest) -> x.points(guest));
    }

    /** A point of the one that is burnt at the other one, for each two inns. */
    private static void owesEachTheOther() {
        for (int pair = 0; pair < 16; pair++) {
            int inn = pair / 4;
            int other = pair % 4;
            HostLeague x = Scenes.withRoomsAndLinen(1, 10, 1);
            Scenes.comeNow(x, 0, inn);
            x.burn(0, other, 1);
            for (int p = 0; p < 16; p++) {
                int asked = p;
                boolean is = inn != other && asked == inn * 4 + other;
                Check.due("owes", is ? 1 : 0, () -> x.owes(asked / 4, asked % 4));
            }
        }
    }

    private static void owesNothing() {
        HostLeague x = new HostLeague();
        for (int p = 0; p < 16; p++) {
            int pair = p;
            Check.due("a new one", 0, () -> x.owes(pair / 4, pair % 4));
        }
        HostLeague y = Scenes.withRoomsAndLinen(1, 10, 1);
        Scenes.comeNow(y, 0, 2);
        y.burn(0, 3, 1);
        Check.due("a coin", 1, () -> y.owes(2, 3));
        Check.due("the one that is owed", 0, () -> y.owes(3, 2));
        y.settle();
        Check.due("when it is paid", 0, () -> y.owes(2, 3));
        Check.due("nor the other way", 0, () -> y.owes(3, 2));
    }

    private static void owesIndex() {
        Refused.beyond("inn", 0, 3, Check.INDEX, Scenes::busy, (x, inn) -> x.owes(inn, 1));
        Refused.beyond("other", 0, 3, Check.INDEX, Scenes::busy, (x, other) -> x.owes(1, other));
    }

    private static void purseLeavesDebtsAside() {
        HostLeague x = new HostLeague();
        for (int i = 0; i < 4; i++) {
            int inn = i;
            Check.due("a new one", 0, () -> x.purse(inn));
        }
        x.setRooms(0, 0, 1, 1);
        x.book(0, 0, 0, 0);
        x.setRooms(0, 0, 0, 1);
        x.setRooms(3, 0, 1, 100);
        x.buyLinen(0, 1);
        x.come(0);
        Check.due("owes for the room, less a coin for linen", 99, () -> x.owes(0, 3));
        Check.due("what the guest paid", 1, () -> x.purse(0));
        Check.due("what is owed is not there", 0, () -> x.purse(3));
        x.settle();
        Check.due("below 0", -98, () -> x.purse(0));
        Check.due("what was owed", 99, () -> x.purse(3));
    }

    private static void purseIndex() {
        Refused.beyond("inn", 0, 3, Check.INDEX, Scenes::busy, (x, inn) -> x.purse(inn));
    }
}
