/**
 * The boundary cases of "What it is", and of inns, bookings and coming under "Terms": a test for each
 * sentence, or for each part of one that names a case of its own.
 */
final class EdgesOfBookings {
    private static final String WHAT_IT_IS = "What it is";
    private static final String TERMS = "Terms";
    private static final int[][] DISTANCES = {{0, 1, 2, 1}, {1, 0, 1, 2}, {2, 1, 0, 1}, {1, 2, 1, 0}};

    private EdgesOfBookings() {
    }

    static void run(Sentences s) {
        s.test(WHAT_IT_IS, "A league of four inns that send guests on to one another",
                EdgesOfBookings::eachInnSendsOnToEach);
        s.test(WHAT_IT_IS, "An object is used for at most 512 calls", EdgesOfBookings::call512OfOneKind);
        s.test(WHAT_IT_IS, "An object is used for at most 512 calls", EdgesOfBookings::call512AfterRefusedOnes);
        s.test(WHAT_IT_IS, "An object is used for at most 512 calls", EdgesOfBookings::call512AfterAllThatCanBe);
        s.test(TERMS, "kept as guests come, and counted once more by all bookings",
                EdgesOfBookings::takenFromNoneToAll);
        s.test(TERMS, "Inns are 0 to 3", EdgesOfBookings::innsZeroToThree);
        s.test(TERMS, "in a ring: the inns a and b are as far from one another", EdgesOfBookings::ringWrapsAround);
        s.test(TERMS, "Kinds of rooms are 0 and 1.", EdgesOfBookings::kindsZeroAndOne);
        s.test(TERMS, "a number of rooms, 0 to 10", EdgesOfBookings::roomsZeroToTen);
        s.test(TERMS, "0 to 10, at first 0", EdgesOfBookings::roomsAtFirstZero);
        s.test(TERMS, "a price, 1 to 100", EdgesOfBookings::priceOneToHundred);
        s.test(TERMS, "1 to 100, at first 10", EdgesOfBookings::priceAtFirstTen);
        s.test(TERMS, "Guests are 0 to 9.", EdgesOfBookings::guestsZeroToNine);
        s.test(TERMS, "The night of now is 0 at first.", EdgesOfBookings::nightAtFirstZero);
        s.test(TERMS, "Bookings are numbered from 0 on", EdgesOfBookings::bookingsNumberedFromZero);
        s.test(TERMS, "at most 80 are made", EdgesOfBookings::atMostEightyBookings);
        s.test(TERMS, "that of now or one of the next 10", EdgesOfBookings::nightOfNowOrNextTen);
        s.test(TERMS, "as long as there are fewer than its rooms", EdgesOfBookings::fewerThanRooms);
        s.test(TERMS, "and its extra, together", EdgesOfBookings::roomsAndExtraTogether);
        s.test(TERMS, "the number of bookings of it that did not come", EdgesOfBookings::whoDidNotCome);
        s.test(TERMS, "in the last 4 nights that are over", EdgesOfBookings::lastFourNights);
        s.test(TERMS, "(fewer, if fewer are over)", EdgesOfBookings::fewerNightsOver);
        s.test(TERMS, "divided by 4, rounded down", EdgesOfBookings::fourthRoundedDown);
        s.test(TERMS, "A guest can come by a booking on its night.", EdgesOfBookings::onItsNight);
        s.test(TERMS, "fewer guests sleep in rooms of this kind there in this night",
                EdgesOfBookings::fewerSleepThanRooms);
        s.test(TERMS, "at the inn of the booking, if there is one", EdgesOfBookings::lastRoomOfTheInn);
        s.test(TERMS, "otherwise at the nearest inn at which one is free", EdgesOfBookings::nearestInnFromEach);
        s.test(TERMS, "of two as near the one with the lower number", EdgesOfBookings::ofTwoTheLower);
        s.test(TERMS, "only at an inn that has clean linen", EdgesOfBookings::lastCleanSet);
        s.test(TERMS, "or can borrow it: some other inn has clean linen", EdgesOfBookings::oneSetElsewhere);
        s.test(TERMS, "If there is no such inn, the guest sleeps nowhere.", EdgesOfBookings::nowhere);
        s.test(TERMS, "pays the price of the inn and kind of the booking", EdgesOfBookings::leastAndMostPaid);
        s.test(TERMS, "the inn of the booking owes that one the price of the kind there",
                EdgesOfBookings::leastAndMostOwed);
    }

    // ---- what it is

    private static void eachInnSendsOnToEach() {
        for (int pair = 0; pair < 16; pair++) {
            int home = pair / 4;
            int other = pair % 4;
            HostLeague x = new HostLeague();
            x.setRooms(home, 1, 1, 10);
            x.book(0, home, 1, 0);
            x.setRooms(home, 1, 0, 10);
            x.setRooms(other, 1, 1, 10);
            x.buyLinen(home, 1);
            Check.due("from inn " + home, other, () -> x.come(0));
        }
    }

    private static void call512OfOneKind() {
        HostLeague x = new HostLeague();
        for (int call = 1; call <= 511; call++) {
            x.buyLinen(3, 20);
        }
        Check.due("call 512", 512 * 20, () -> x.buyLinen(3, 20));
    }

    private static void call512AfterRefusedOnes() {
        HostLeague x = new HostLeague();
        for (int call = 1; call <= 511; call++) {
            Check.refuses("call " + call, Check.INDEX, () -> x.come(0));
        }
        Check.due("call 512", 0, () -> x.setRooms(0, 0, 1, 1));
    }

    /** 80 bookings that all come, at the highest price, and all 300 nights, in one life. */
    private static void call512AfterAllThatCanBe() {
        HostLeague x = new HostLeague();
        x.setRooms(0, 0, 10, 100);
        x.setRooms(0, 1, 10, 100);
        for (int n = 0; n < 4; n++) {
            x.buyLinen(0, 20);
        }
        int calls = 6;
        for (int booking = 0; booking < 80; booking++) {
            x.book(9, 0, booking % 2, booking / 20);
            calls++;
        }
        for (int night = 0; night < 300; night++) {
            for (int booking = 20 * night; booking < 20 * night + 20 && booking < 80; booking++) {
                x.come(booking);
                calls++;
            }
            x.night();
            calls++;
        }
        for (int points = 700; points >= 0; points -= 100) {
            int left = points;
            Check.due("points left", left, () -> x.burn(9, 3, 100));
            calls++;
        }
        Check.due("all debts", 800, () -> x.settle());
        Check.due("all that was paid, less the debts", 7200, () -> x.purse(0));
        calls += 2;
        while (calls < 511) {
            Check.due("the last night", 300, () -> x.today());
            calls++;
        }
        Check.due("call 512", 80, () -> x.clean(0));
    }

    // ---- inns, kinds, guests, nights and bookings

    private static void takenFromNoneToAll() {
        HostLeague x = Scenes.withRoomsAndLinen(10, 10, 20);
        for (int n = 0; n < 10; n++) {
            taken(x, 2, n);
            Scenes.comeNow(x, n, 2);
        }
        taken(x, 2, 10);
        x.setRooms(1, 0, 1, 10);
        x.book(0, 1, 0, 0);
        x.setRooms(1, 0, 0, 10);
        x.setRooms(0, 0, 0, 10);
        x.setRooms(3, 0, 1, 10);
        Check.due("sent on", 3, () -> x.come(10));
        taken(x, 1, 0);
        taken(x, 3, 1);
        x.night();
        taken(x, 2, 0);
        taken(x, 3, 0);
    }

    private static void taken(HostLeague x, int inn, int want) {
        Check.due("kept", want, () -> x.taken(inn, 0));
        Check.due("counted", want, () -> x.takenByBookings(inn, 0));
        Check.due("kept of the other kind", 0, () -> x.taken(inn, 1));
        Check.due("counted of the other kind", 0, () -> x.takenByBookings(inn, 1));
    }

    private static void innsZeroToThree() {
        HostLeague x = new HostLeague();
        for (int i = 0; i < 4; i++) {
            int inn = i;
            Check.due("inn " + inn, 1 + inn, () -> x.buyLinen(inn, 1 + inn));
        }
        for (int i = 0; i < 4; i++) {
            int inn = i;
            Check.due("of its own, inn " + inn, 1 + inn, () -> x.clean(inn));
        }
        Check.refuses("inn -1", Check.INDEX, () -> x.clean(-1));
        Check.refuses("inn 4", Check.INDEX, () -> x.clean(4));
    }

    /** Where only two inns have a room: the nearer one is not told by the difference of numbers alone. */
    private static void ringWrapsAround() {
        sentOnWithRoomsAt(0, 2, 3, 3);
        sentOnWithRoomsAt(3, 0, 1, 0);
        sentOnWithRoomsAt(0, 1, 3, 1);
        sentOnWithRoomsAt(3, 0, 2, 0);
        sentOnWithRoomsAt(1, 2, 3, 2);
        sentOnWithRoomsAt(2, 0, 1, 1);
    }

    private static void sentOnWithRoomsAt(int home, int a, int b, int want) {
        HostLeague x = new HostLeague();
        x.setRooms(home, 0, 1, 10);
        x.book(0, home, 0, 0);
        x.setRooms(home, 0, 0, 10);
        x.setRooms(a, 0, 1, 10);
        x.setRooms(b, 0, 1, 10);
        x.buyLinen(home, 1);
        Check.due("from " + home + " with rooms at " + a + " and " + b, want, () -> x.come(0));
    }

    private static void kindsZeroAndOne() {
        HostLeague x = new HostLeague();
        x.setRooms(0, 0, 3, 10);
        x.setRooms(0, 1, 7, 10);
        Check.due("kind 0", 3, () -> x.free(0, 0));
        Check.due("kind 1", 7, () -> x.free(0, 1));
        Check.refuses("kind -1", Check.INDEX, () -> x.free(0, -1));
        Check.refuses("kind 2", Check.INDEX, () -> x.free(0, 2));
    }

    private static void roomsZeroToTen() {
        HostLeague x = new HostLeague();
        Check.refuses("-1", Check.ARGUMENT, () -> x.setRooms(1, 1, -1, 10));
        Check.due("10", 0, () -> x.setRooms(1, 1, 10, 10));
        Check.due("10 are there", 10, () -> x.free(1, 1));
        Check.refuses("11", Check.ARGUMENT, () -> x.setRooms(1, 1, 11, 10));
        Check.due("0", 10, () -> x.setRooms(1, 1, 0, 10));
        Check.due("0 are there", 0, () -> x.free(1, 1));
    }

    private static void roomsAtFirstZero() {
        for (int row = 0; row < 8; row++) {
            int inn = row / 2;
            int kind = row % 2;
            HostLeague x = new HostLeague();
            Check.due("free", 0, () -> x.free(inn, kind));
            Check.refuses("no booking", Check.STATE, () -> x.book(0, inn, kind, 0));
            Check.due("there were", 0, () -> x.setRooms(inn, kind, 1, 1));
        }
    }

    private static void priceOneToHundred() {
        HostLeague x = Scenes.withRoomsAndLinen(10, 10, 20);
        Check.refuses("0", Check.ARGUMENT, () -> x.setRooms(1, 0, 10, 0));
        Check.due("1", 10, () -> x.setRooms(1, 0, 10, 1));
        Scenes.comeNow(x, 0, 1);
        Check.due("1 is paid", 1, () -> x.purse(1));
        Check.refuses("101", Check.ARGUMENT, () -> x.setRooms(1, 0, 10, 101));
        Check.due("100", 10, () -> x.setRooms(1, 0, 10, 100));
        Scenes.comeNow(x, 0, 1);
        Check.due("100 are paid", 101, () -> x.purse(1));
    }

    /** The extra, of bookings of the other kind, takes a booking of a kind that was never set. */
    private static void priceAtFirstTen() {
        for (int row = 0; row < 8; row++) {
            int inn = row / 2;
            int kind = row % 2;
            HostLeague x = Scenes.missed(inn, 1 - kind, 4);
            x.book(0, inn, kind, 1);
            x.setRooms((inn + 1) % 4, kind, 1, 77);
            x.buyLinen(inn, 1);
            x.come(4);
            Check.due("inn " + inn + ", kind " + kind, 10, () -> x.purse(inn));
        }
    }

    private static void guestsZeroToNine() {
        HostLeague x = Scenes.withRoomsAndLinen(10, 100, 20);
        Check.due("guest 0", 0, () -> x.book(0, 0, 0, 0));
        Check.due("guest 9", 1, () -> x.book(9, 0, 0, 0));
        Check.refuses("guest -1", Check.INDEX, () -> x.book(-1, 0, 0, 0));
        Check.refuses("guest 10", Check.INDEX, () -> x.book(10, 0, 0, 0));
        x.come(1);
        Check.due("none of guest 0", 0, () -> x.points(0));
        Check.due("those of guest 9", 10, () -> x.points(9));
    }

    private static void nightAtFirstZero() {
        HostLeague x = Scenes.withRooms(1, 10);
        Check.due("night", 0, () -> x.today());
        Check.refuses("none before it", Check.ARGUMENT, () -> x.book(0, 0, 0, -1));
        Check.due("a booking for it", 0, () -> x.book(0, 0, 0, 0));
        Check.due("comes in it", -1, () -> x.come(0));
    }

    private static void bookingsNumberedFromZero() {
        HostLeague x = Scenes.withRooms(2, 10);
        Check.due("the first", 0, () -> x.book(0, 0, 0, 0));
        Check.due("the second", 1, () -> x.book(0, 0, 0, 0));
        Check.refuses("a refused one", Check.STATE, () -> x.book(0, 0, 0, 0));
        x.night();
        Check.due("has no number", 2, () -> x.book(0, 0, 0, 1));
        Check.due("the first has not come", -1, () -> x.sleeps(0));
        Check.refuses("none before it", Check.INDEX, () -> x.sleeps(-1));
        Check.refuses("none behind the last", Check.INDEX, () -> x.sleeps(3));
    }

    private static void atMostEightyBookings() {
        HostLeague x = Scenes.withRooms(10, 10);
        for (int b = 0; b < 79; b++) {
            x.book(0, b / 10 % 4, b / 40, 0);
        }
        Check.due("the 80th", 79, () -> x.book(0, 3, 1, 0));
        Check.refuses("the 81st", Check.STATE, () -> x.book(0, 3, 1, 1));
        x.night();
        Check.refuses("the 81st, with none left for tonight", Check.STATE, () -> x.book(0, 0, 0, 1));
        Check.due("are made", 80, () -> x.bookings());
    }

    private static void nightOfNowOrNextTen() {
        HostLeague x = Scenes.withRooms(1, 10);
        for (int night = 0; night <= 300; night++) {
            int now = night;
            if (now == 0 || now == 7 || now == 300) {
                int made = x.bookings();
                Check.refuses("the one before " + now, Check.ARGUMENT, () -> x.book(0, 0, 0, now - 1));
                Check.due("that of now, " + now, made, () -> x.book(0, 0, 0, now));
                Check.due("10 more than " + now, made + 1, () -> x.book(0, 0, 0, now + 10));
                Check.refuses("11 more than " + now, Check.ARGUMENT, () -> x.book(0, 0, 0, now + 11));
            }
            if (now < 300) {
                x.night();
            }
        }
    }

    private static void fewerThanRooms() {
        for (int r = 0; r <= 10; r++) {
            int rooms = r;
            HostLeague x = new HostLeague();
            x.setRooms(0, 0, rooms, 10);
            for (int n = 0; n < rooms; n++) {
                int number = n;
                Check.due("booking " + number + " of " + rooms, number, () -> x.book(0, 0, 0, 0));
            }
            Check.refuses("one more than " + rooms, Check.STATE, () -> x.book(0, 0, 0, 0));
            if (rooms > 0) {
                Check.due("another night", rooms, () -> x.book(0, 0, 0, 1));
            }
        }
        HostLeague y = Scenes.withRoomsAndLinen(1, 10, 5);
        y.book(0, 1, 0, 0);
        Check.due("the other kind", 1, () -> y.book(0, 1, 1, 0));
        Check.due("another inn", 2, () -> y.book(0, 2, 0, 0));
        y.come(0);
        Check.refuses("who came still counts", Check.STATE, () -> y.book(0, 1, 0, 0));
        y.setRooms(1, 0, 2, 10);
        Check.due("a room more", 3, () -> y.book(0, 1, 0, 0));
        y.setRooms(1, 0, 1, 10);
        Check.refuses("a room less", Check.STATE, () -> y.book(0, 1, 0, 0));
    }

    private static void roomsAndExtraTogether() {
        for (int r = 0; r <= 2; r++) {
            int rooms = r;
            HostLeague x = Scenes.missed(1, 0, 8);
            Check.due("extra", 2, () -> x.extra(1));
            x.setRooms(1, 0, rooms, 10);
            for (int n = 0; n < rooms + 2; n++) {
                int number = 8 + n;
                Check.due("booking of " + rooms + " and 2", number, () -> x.book(0, 1, 0, 1));
            }
            Check.refuses("more than " + rooms + " and 2", Check.STATE, () -> x.book(0, 1, 0, 1));
            Check.refuses("another inn", Check.STATE, () -> x.book(0, 2, 0, 1));
            Check.due("the other kind, by the extra alone", 10 + rooms, () -> x.book(0, 1, 1, 11));
        }
    }

    private static void whoDidNotCome() {
        HostLeague x = Scenes.withRooms(3, 10);
        for (int n = 0; n < 6; n++) {
            x.book(n, 2, n % 2, 0);
        }
        x.come(0);
        Check.due("slept nowhere", -1, () -> x.sleeps(0));
        x.buyLinen(3, 1);
        x.setRooms(2, 1, 0, 10);
        Check.due("slept at another inn", 1, () -> x.come(1));
        x.night();
        Check.due("four of six, of either kind", 1, () -> x.extra(2));
        Check.due("none of where one slept", 0, () -> x.extra(1));

        HostLeague y = Scenes.withRooms(4, 10);
        for (int n = 0; n < 4; n++) {
            y.book(n, 2, 0, 0);
        }
        y.come(3);
        y.night();
        Check.due("three of four", 0, () -> y.extra(2));
    }

    private static void lastFourNights() {
        HostLeague x = Scenes.withRooms(4, 10);
        for (int n = 0; n < 4; n++) {
            x.book(n, 0, 0, 3);
        }
        int[] want = {0, 0, 0, 0, 1, 1, 1, 1, 0, 0};
        for (int n = 0; n < want.length; n++) {
            int night = n;
            Check.due("in the night " + night, want[night], () -> x.extra(0));
            x.night();
        }
        HostLeague y = Scenes.withRooms(1, 10);
        for (int night = 1; night <= 5; night++) {
            y.book(0, 0, 0, night);
        }
        Scenes.nights(y, 4);
        Check.due("three nights with one each", 0, () -> y.extra(0));
        y.night();
        Check.due("four nights with one each", 1, () -> y.extra(0));
        Scenes.nights(y, 2);
        Check.due("three of them are left", 0, () -> y.extra(0));
    }

    private static void fewerNightsOver() {
        HostLeague x = Scenes.withRooms(8, 10);
        for (int n = 0; n < 8; n++) {
            x.book(n, 3, 0, 0);
        }
        Check.due("none is over", 0, () -> x.extra(3));
        for (int n = 1; n <= 4; n++) {
            x.night();
            Check.due("over: " + n, 2, () -> x.extra(3));
        }
        x.night();
        Check.due("five are over", 0, () -> x.extra(3));
    }

    private static void fourthRoundedDown() {
        int[] want = {0, 0, 0, 0, 1, 1, 1, 1, 2, 2, 2};
        for (int n = 0; n <= 9; n++) {
            HostLeague x = Scenes.missed(0, n % 2, n);
            Check.due("a fourth of " + n, want[n], () -> x.extra(0));
        }
    }

    // ---- coming

    private static void onItsNight() {
        HostLeague x = Scenes.withRoomsAndLinen(1, 10, 5);
        x.book(0, 0, 0, 5);
        for (int n = 0; n < 5; n++) {
            Check.refuses("too early, " + n, Check.STATE, () -> x.come(0));
            x.night();
        }
        x.book(1, 1, 0, 5);
        Check.due("on it", 0, () -> x.come(0));
        x.night();
        Check.refuses("a night late", Check.STATE, () -> x.come(1));
        Check.due("has never come", -1, () -> x.sleeps(1));
    }

    private static void fewerSleepThanRooms() {
        HostLeague x = Scenes.withRoomsAndLinen(10, 10, 20);
        for (int n = 0; n < 10; n++) {
            int free = 10 - n;
            Check.due("free", free, () -> x.free(1, 0));
            Check.due("gets it", 1, () -> Scenes.comeNow(x, 0, 1));
        }
        Check.due("none is free", 0, () -> x.free(1, 0));
        Check.due("those of the other kind are", 10, () -> x.free(1, 1));
        Check.due("those of another inn are", 10, () -> x.free(2, 0));
        x.setRooms(1, 0, 9, 10);
        Check.due("more sleep than there are rooms", 0, () -> x.free(1, 0));
        x.setRooms(1, 0, 10, 10);
        x.night();
        Check.due("all are free in another night", 10, () -> x.free(1, 0));
    }

    private static void lastRoomOfTheInn() {
        int[] next = {1, 0, 1, 0};
        for (int h = 0; h < 4; h++) {
            int home = h;
            HostLeague x = Scenes.withRoomsAndLinen(2, 10, 5);
            for (int n = 0; n < 2; n++) {
                x.book(n, home, 0, 0);
            }
            Check.due("the first of two rooms", home, () -> x.come(0));
            Check.due("the last room", home, () -> x.come(1));
            x.setRooms(home, 0, 3, 10);
            x.book(2, home, 0, 0);
            x.setRooms(home, 0, 2, 10);
            Check.due("no room is left", next[home], () -> x.come(2));
        }
    }

    /** From each inn, with rooms at each set of inns; the distances are written out. */
    private static void nearestInnFromEach() {
        for (int home = 0; home < 4; home++) {
            for (int roomsAt = 0; roomsAt < 16; roomsAt++) {
                int want = -1;
                for (int inn = 3; inn >= 0; inn--) {
                    boolean nearer = want == -1 || DISTANCES[home][inn] <= DISTANCES[home][want];
                    if ((roomsAt >> inn & 1) == 1 && nearer) {
                        want = inn;
                    }
                }
                HostLeague x = new HostLeague();
                x.setRooms(home, 0, 1, 10);
                x.book(0, home, 0, 0);
                for (int inn = 0; inn < 4; inn++) {
                    x.setRooms(inn, 0, roomsAt >> inn & 1, 10);
                }
                x.buyLinen((home + 1) % 4, 1);
                Check.due("from " + home + " with rooms at the inns of " + roomsAt, want, () -> x.come(0));
            }
        }
    }

    private static void ofTwoTheLower() {
        sentOnWithRoomsAt(0, 1, 3, 1);
        sentOnWithRoomsAt(1, 0, 2, 0);
        sentOnWithRoomsAt(2, 1, 3, 1);
        sentOnWithRoomsAt(3, 0, 2, 0);
    }

    private static void lastCleanSet() {
        HostLeague x = Scenes.withRooms(3, 10);
        x.buyLinen(0, 2);
        for (int n = 0; n < 3; n++) {
            x.book(n, 0, 0, 0);
        }
        Check.due("of two sets", 0, () -> x.come(0));
        Check.due("the last set", 0, () -> x.come(1));
        Check.due("no clean set is left", -1, () -> x.come(2));
    }

    private static void oneSetElsewhere() {
        for (int pair = 0; pair < 16; pair++) {
            int home = pair / 4;
            int giver = pair % 4;
            HostLeague x = Scenes.withRooms(3, 10);
            x.book(0, home, 0, 0);
            x.book(1, home, 0, 0);
            x.buyLinen(giver, 1);
            Check.due("stays at " + home + " by the set of " + giver, home, () -> x.come(0));
            Check.due("none has a set", -1, () -> x.come(1));
        }
    }

    private static void nowhere() {
        HostLeague x = new HostLeague();
        x.setRooms(0, 0, 4, 50);
        x.setRooms(2, 1, 5, 50);
        for (int n = 0; n < 4; n++) {
            x.book(n, 0, 0, 0);
        }
        Check.due("rooms, but no linen", -1, () -> x.come(0));
        x.setRooms(0, 0, 0, 50);
        Check.due("neither", -1, () -> x.come(1));
        x.buyLinen(0, 1);
        Check.due("linen, but rooms of the other kind alone", -1, () -> x.come(2));
        Check.due("pays nothing", 0, () -> x.purse(0));
        Check.due("earns nothing", 0, () -> x.points(2));
        Check.due("takes no linen", 1, () -> x.clean(0));
        Check.due("takes no room", 0, () -> x.taken(2, 1));
        x.setRooms(0, 0, 1, 50);
        Check.refuses("has come all the same", Check.STATE, () -> x.come(2));
        Check.due("a room and linen", 0, () -> x.come(3));
        Check.due("all have come", 0, () -> x.night());
    }

    private static void leastAndMostPaid() {
        HostLeague x = Scenes.withRoomsAndLinen(2, 33, 5);
        x.setRooms(0, 0, 2, 1);
        x.setRooms(0, 1, 2, 100);
        x.book(0, 0, 0, 0);
        x.book(1, 0, 1, 0);
        x.book(2, 0, 1, 0);
        x.come(0);
        Check.due("the least", 1, () -> x.purse(0));
        x.come(1);
        Check.due("the most", 101, () -> x.purse(0));
        x.setRooms(0, 1, 0, 100);
        Check.due("sent on", 1, () -> x.come(2));
        Check.due("pays the inn of the booking its price", 201, () -> x.purse(0));
        Check.due("pays nothing where it sleeps", 0, () -> x.purse(1));
    }

    private static void leastAndMostOwed() {
        for (int price : new int[] {1, 100}) {
            HostLeague x = Scenes.withRoomsAndLinen(1, 33, 5);
            x.book(0, 0, 1, 0);
            x.book(1, 0, 0, 0);
            x.setRooms(0, 1, 0, 33);
            x.setRooms(1, 1, 1, price);
            x.come(0);
            Check.due("owes the price there", price, () -> x.owes(0, 1));
            Check.due("the other way nothing", 0, () -> x.owes(1, 0));
            x.come(1);
            Check.due("owes no more for one who stays", price, () -> x.owes(0, 1));
        }
    }
}
