/** The boundary cases of the promises 1 to 9: a test for each line below their headings. */
final class EdgesOfChanges {
    private EdgesOfChanges() {
    }

    static void run(Sentences s) {
        s.test("Promise 1", "No rooms, linen and bookings", EdgesOfChanges::newIsEmpty);
        s.test("Promise 1", "the laundry works", EdgesOfChanges::newLaundryWorks);

        s.test("Promise 2", "Sets the rooms and the price of a kind at an inn.", EdgesOfChanges::setRoomsOfEach);
        s.test("Promise 2", "`inn`: the inn", EdgesOfChanges::setRoomsInn);
        s.test("Promise 2", "`kind`: 0 or 1", EdgesOfChanges::setRoomsKind);
        s.test("Promise 2", "`rooms`: 0 to 10", EdgesOfChanges::setRoomsRooms);
        s.test("Promise 2", "`price`: 1 to 100", EdgesOfChanges::setRoomsPrice);
        s.test("Promise 2", "Returns how many rooms there were.", EdgesOfChanges::setRoomsReturns);
        s.test("Promise 2", "`IndexOutOfBoundsException` if there is no such inn or kind",
                EdgesOfChanges::setRoomsIndex);
        s.test("Promise 2", "`IllegalArgumentException` if rooms or price", EdgesOfChanges::setRoomsArgument);

        s.test("Promise 3", "Buys clean linen for an inn.", EdgesOfChanges::buyLinenForOne);
        s.test("Promise 3", "`inn`: the inn", EdgesOfChanges::buyLinenInn);
        s.test("Promise 3", "`sets`: 1 to 20", EdgesOfChanges::buyLinenSets);
        s.test("Promise 3", "Returns how many clean sets it has then.", EdgesOfChanges::buyLinenReturns);
        s.test("Promise 3", "`IndexOutOfBoundsException` if there is no such inn", EdgesOfChanges::buyLinenIndex);
        s.test("Promise 3", "`IllegalArgumentException` if sets", EdgesOfChanges::buyLinenArgument);

        s.test("Promise 4", "Breaks the laundry, or mends it.", EdgesOfChanges::setBrokenBothWays);
        s.test("Promise 4", "`isBroken`: whether it is broken from now on", EdgesOfChanges::setBrokenFromNowOn);
        s.test("Promise 4", "Returns whether it was.", EdgesOfChanges::setBrokenReturns);

        s.test("Promise 5", "Books a room.", EdgesOfChanges::bookTakesNoneYet);
        s.test("Promise 5", "`guest`: the guest", EdgesOfChanges::bookGuest);
        s.test("Promise 5", "`inn`: the inn", EdgesOfChanges::bookInn);
        s.test("Promise 5", "`kind`: 0 or 1", EdgesOfChanges::bookKind);
        s.test("Promise 5", "`night`: that of now, to 10 more", EdgesOfChanges::bookNight);
        s.test("Promise 5", "Returns the number of the booking.", EdgesOfChanges::bookReturns);
        s.test("Promise 5", "`IndexOutOfBoundsException` if there is no such guest", EdgesOfChanges::bookIndex);
        s.test("Promise 5", "`IllegalArgumentException` if night is out of range", EdgesOfChanges::bookArgument);
        s.test("Promise 5", "`IllegalStateException` if 80 were made", EdgesOfChanges::bookEightyMade);
        s.test("Promise 5", "or the inn takes no more", EdgesOfChanges::bookTakesNoMore);

        s.test("Promise 6", "The guest of a booking comes.", EdgesOfChanges::comeFirstAndLast);
        s.test("Promise 6", "`booking`: the booking", EdgesOfChanges::comeBooking);
        s.test("Promise 6", "Returns the inn where it sleeps; -1 if it sleeps nowhere.", EdgesOfChanges::comeReturns);
        s.test("Promise 6", "`IndexOutOfBoundsException` if there is no such booking", EdgesOfChanges::comeIndex);
        s.test("Promise 6", "`IllegalStateException` if it is not its night", EdgesOfChanges::comeNotItsNight);
        s.test("Promise 6", "or the guest has come by it", EdgesOfChanges::comeHasCome);

        s.test("Promise 7", "Burns points of a guest at an inn.", EdgesOfChanges::burnOfOneGuest);
        s.test("Promise 7", "`guest`: the guest", EdgesOfChanges::burnGuest);
        s.test("Promise 7", "`inn`: the inn", EdgesOfChanges::burnInn);
        s.test("Promise 7", "`points`: 1 to 100", EdgesOfChanges::burnPoints);
        s.test("Promise 7", "Returns how many points the guest has then.", EdgesOfChanges::burnReturns);
        s.test("Promise 7", "`IndexOutOfBoundsException` if there is no such guest or inn", EdgesOfChanges::burnIndex);
        s.test("Promise 7", "`IllegalArgumentException` if points is out of range", EdgesOfChanges::burnArgument);
        s.test("Promise 7", "`IllegalStateException` if the guest does not have so many", EdgesOfChanges::burnTooMany);

        s.test("Promise 8", "Ends a night.", EdgesOfChanges::nightEnds);
        s.test("Promise 8", "Returns how many bookings did not come in it.", EdgesOfChanges::nightReturns);
        s.test("Promise 8", "`IllegalStateException` if it is the night 300", EdgesOfChanges::nightThreeHundred);

        s.test("Promise 9", "Settles all debts.", EdgesOfChanges::settleAll);
        s.test("Promise 9", "Returns how much is paid by that, over all pairs of inns.", EdgesOfChanges::settleReturns);
    }

    // ---- promise 1

    private static void newIsEmpty() {
        for (int i = 0; i < 4; i++) {
            int inn = i;
            HostLeague x = new HostLeague();
            for (int kind = 0; kind < 2; kind++) {
                int of = kind;
                Check.due("free", 0, () -> x.free(inn, of));
                Check.refuses("no room to book", Check.STATE, () -> x.book(0, inn, of, 0));
                Check.due("rooms", 0, () -> x.setRooms(inn, of, 1, 10));
            }
            Check.due("clean", 0, () -> x.clean(inn));
            Check.due("away", 0, () -> x.away(inn));
            Check.due("the first booking", 0, () -> x.book(0, inn, 0, 0));
            Check.due("a room, but no linen anywhere", -1, () -> x.come(0));
        }
        HostLeague y = new HostLeague();
        Check.due("bookings", 0, () -> y.bookings());
        Check.refuses("no booking 0", Check.INDEX, () -> y.sleeps(0));
        Check.refuses("nobody comes", Check.INDEX, () -> y.come(0));
        Check.refuses("nothing to burn", Check.STATE, () -> y.burn(0, 0, 1));
        Check.due("nothing to settle", 0, () -> y.settle());
        Check.due("nobody did not come", 0, () -> y.night());
        Check.same("one as the other", State.of(new HostLeague()), State.of(new HostLeague()));
    }

    private static void newLaundryWorks() {
        HostLeague x = Scenes.withRoomsAndLinen(1, 10, 1);
        Scenes.comeNow(x, 0, 0);
        Scenes.nights(x, 3);
        Check.due("the set came back", 1, () -> x.clean(0));
        HostLeague y = new HostLeague();
        Check.due("was not broken", 0, () -> y.setBroken(true) ? 1 : 0);
    }

    // ---- promise 2

    /** Eight kinds at the inns, each with rooms and a price of its own, up to the most. */
    private static void setRoomsOfEach() {
        HostLeague x = new HostLeague();
        for (int row = 0; row < 8; row++) {
            x.setRooms(row / 2, row % 2, 3 + row, 93 + row);
        }
        for (int r = 0; r < 8; r++) {
            int row = r;
            Check.due("rooms", 3 + row, () -> x.free(row / 2, row % 2));
        }
        for (int i = 0; i < 4; i++) {
            int inn = i;
            x.buyLinen(inn, 2);
            x.come(x.book(0, inn, 0, 0));
            Check.due("price of kind 0", 93 + 2 * inn, () -> x.purse(inn));
            x.come(x.book(0, inn, 1, 0));
            Check.due("price of kind 1", 93 + 2 * inn + 94 + 2 * inn, () -> x.purse(inn));
        }
    }

    private static void setRoomsInn() {
        Refused.beyond("inn", 0, 3, Check.INDEX, Scenes::busy, (x, inn) -> x.setRooms(inn, 1, 4, 40));
    }

    private static void setRoomsKind() {
        Refused.beyond("kind", 0, 1, Check.INDEX, Scenes::busy, (x, kind) -> x.setRooms(2, kind, 4, 40));
    }

    private static void setRoomsRooms() {
        Refused.beyond("rooms", 0, 10, Check.ARGUMENT, Scenes::busy, (x, rooms) -> x.setRooms(2, 0, rooms, 40));
        for (int rooms : new int[] {0, 10}) {
            HostLeague x = Scenes.busy();
            x.setRooms(2, 0, rooms, 40);
            Check.due("rooms there", rooms, () -> x.free(2, 0));
        }
    }

    private static void setRoomsPrice() {
        Refused.beyond("price", 1, 100, Check.ARGUMENT, Scenes::busy, (x, price) -> x.setRooms(2, 0, 4, price));
        for (int price : new int[] {1, 100}) {
            HostLeague x = Scenes.busy();
            x.setRooms(2, 0, 4, price);
            Scenes.comeNow(x, 0, 2);
            Check.due("price paid", price, () -> x.purse(2));
        }
    }

    private static void setRoomsReturns() {
        HostLeague x = new HostLeague();
        int[] rooms = {10, 0, 0, 10, 10, 1};
        int before = 0;
        for (int now : rooms) {
            int there = before;
            Check.due("there were", there, () -> x.setRooms(1, 1, now, 10));
            before = now;
        }
        HostLeague y = Scenes.withRoomsAndLinen(2, 10, 5);
        Scenes.comeNow(y, 0, 3);
        Check.due("taken rooms are rooms", 2, () -> y.setRooms(3, 0, 0, 10));
        Check.due("none, though one is taken", 0, () -> y.setRooms(3, 0, 1, 10));
    }

    private static void setRoomsIndex() {
        Refused.index("last inn and more", Scenes::busy, x -> x.setRooms(4, 1, 0, 1));
        Refused.index("ahead of the first inn", Scenes::busy, x -> x.setRooms(-1, 0, 10, 100));
        Refused.index("last kind and more", Scenes::busy, x -> x.setRooms(3, 2, 10, 100));
        Refused.index("ahead of the first kind", Scenes::busy, x -> x.setRooms(0, -1, 0, 1));
        Refused.index("neither inn nor kind", Scenes::busy, x -> x.setRooms(4, -1, 5, 50));
    }

    private static void setRoomsArgument() {
        Refused.argument("a room too few", Scenes::busy, x -> x.setRooms(0, 0, -1, 1));
        Refused.argument("a room too many", Scenes::busy, x -> x.setRooms(0, 0, 11, 100));
        Refused.argument("a coin too few", Scenes::busy, x -> x.setRooms(0, 0, 0, 0));
        Refused.argument("a coin too many", Scenes::busy, x -> x.setRooms(0, 0, 10, 101));
        Refused.argument("rooms and price", Scenes::busy, x -> x.setRooms(0, 0, 11, 0));
    }

    // ---- promise 3

    private static void buyLinenForOne() {
        HostLeague x = Scenes.withRooms(2, 10);
        x.book(0, 0, 0, 0);
        x.book(1, 0, 0, 0);
        Check.due("without linen", -1, () -> x.come(0));
        x.buyLinen(3, 1);
        Check.due("one set", 1, () -> x.clean(3));
        Check.due("none of another inn", 0, () -> x.clean(0));
        Check.due("it is clean at once", 0, () -> x.come(1));
        Check.due("it costs nothing", 0, () -> x.purse(3));
    }

    private static void buyLinenInn() {
        Refused.beyond("inn", 0, 3, Check.INDEX, Scenes::busy, (x, inn) -> x.buyLinen(inn, 3));
    }

    private static void buyLinenSets() {
        Refused.beyond("sets", 1, 20, Check.ARGUMENT, Scenes::busy, (x, sets) -> x.buyLinen(1, sets));
        for (int sets : new int[] {1, 20}) {
            HostLeague x = new HostLeague();
            x.buyLinen(1, sets);
            Check.due("sets there", sets, () -> x.clean(1));
        }
    }

    private static void buyLinenReturns() {
        HostLeague x = Scenes.withRooms(2, 10);
        Check.due("from none", 1, () -> x.buyLinen(2, 1));
        Check.due("to more than are bought at once", 21, () -> x.buyLinen(2, 20));
        Scenes.comeNow(x, 0, 2);
        Check.due("clean ones alone", 21, () -> x.buyLinen(2, 1));
        Check.due("of the inn alone", 20, () -> x.buyLinen(1, 20));
    }

    private static void buyLinenIndex() {
        Refused.index("inn 4", Scenes::busy, x -> x.buyLinen(4, 20));
        Refused.index("inn -1", Scenes::busy, x -> x.buyLinen(-1, 1));
    }

    private static void buyLinenArgument() {
        Refused.argument("none", Scenes::busy, x -> x.buyLinen(0, 0));
        Refused.argument("less than none", Scenes::busy, x -> x.buyLinen(3, -20));
        Refused.argument("one too many", Scenes::busy, x -> x.buyLinen(3, 21));
    }

    // ---- promise 4

    /** The night 2, with one set in the laundry that is due when it is over. */
    private static HostLeague withDueLinen() {
        HostLeague x = Scenes.withRooms(1, 10);
        x.buyLinen(0, 1);
        Scenes.comeNow(x, 0, 0);
        Scenes.nights(x, 2);
        return x;
    }

    private static void setBrokenBothWays() {
        HostLeague x = withDueLinen();
        x.setBroken(true);
        x.night();
        Check.due("broken", 0, () -> x.clean(0));
        x.setBroken(false);
        Check.due("mended", 0, () -> x.clean(0));
        x.night();
        Check.due("mended, and a night over", 1, () -> x.clean(0));
    }

    private static void setBrokenFromNowOn() {
        HostLeague x = withDueLinen();
        x.setBroken(true);
        Scenes.nights(x, 50);
        Check.due("broken for many nights", 1, () -> x.away(0));
        x.setBroken(false);
        x.night();
        Check.due("works", 0, () -> x.away(0));
        Scenes.comeNow(x, 0, 0);
        Scenes.nights(x, 3);
        Check.due("works for more nights", 1, () -> x.clean(0));
    }

    private static void setBrokenReturns() {
        boolean[] is = {false, true, true, false, false, true};
        HostLeague x = new HostLeague();
        boolean before = false;
        for (boolean now : is) {
            boolean was = before;
            Check.due("was", was ? 1 : 0, () -> x.setBroken(now) ? 1 : 0);
            x.night();
            before = now;
        }
    }

    // ---- promise 5

    private static void bookTakesNoneYet() {
        HostLeague x = Scenes.withRoomsAndLinen(1, 10, 1);
        x.book(0, 0, 0, 0);
        Check.due("the room is free", 1, () -> x.free(0, 0));
        Check.due("nobody sleeps", 0, () -> x.taken(0, 0));
        Check.due("the linen is clean", 1, () -> x.clean(0));
        Check.due("nothing is paid", 0, () -> x.purse(0));
        Check.due("nobody has come", -1, () -> x.sleeps(0));
        Check.due("one guest may have more than one", 1, () -> x.book(0, 0, 1, 0));
    }

    private static void bookGuest() {
        Refused.beyond("guest", 0, 9, Check.INDEX, Scenes::busy, (x, guest) -> x.book(guest, 2, 0, 12));
        for (int guest : new int[] {0, 9}) {
            HostLeague x = Scenes.busy();
            Check.due("guest " + guest, 19, () -> x.book(guest, 2, 0, 12));
        }
    }

    private static void bookInn() {
        Refused.beyond("inn", 0, 3, Check.INDEX, Scenes::busy, (x, inn) -> x.book(0, inn, 0, 12));
        for (int inn : new int[] {0, 3}) {
            HostLeague x = Scenes.busy();
            Check.due("inn " + inn, 19, () -> x.book(0, inn, 0, 12));
        }
    }

    private static void bookKind() {
        Refused.beyond("kind", 0, 1, Check.INDEX, Scenes::busy, (x, kind) -> x.book(0, 2, kind, 12));
        for (int kind : new int[] {0, 1}) {
            HostLeague x = Scenes.busy();
            Check.due("kind " + kind, 19, () -> x.book(0, 2, kind, 12));
        }
    }

    private static void bookNight() {
        Refused.beyond("night", 2, 12, Check.ARGUMENT, Scenes::busy, (x, night) -> x.book(0, 2, 0, night));
        Refused.beyond("night", 0, 10, Check.ARGUMENT, Scenes::fullOfBookings, (x, night) -> x.book(0, 2, 0, night));
        Refused.beyond("night", 300, 310, Check.ARGUMENT, Scenes::lastNight, (x, night) -> x.book(0, 0, 0, night));
        HostLeague x = Scenes.lastNight();
        Check.due("beyond the last night", 3, () -> x.book(0, 0, 0, 310));
    }

    private static void bookReturns() {
        HostLeague x = Scenes.withRooms(10, 10);
        for (int n = 0; n < 80; n++) {
            int number = n;
            Check.due("number", number, () -> x.book(number % 10, number % 4, 0, number / 40));
        }
        Check.due("the last one", -1, () -> x.sleeps(79));
        Check.refuses("none behind it", Check.INDEX, () -> x.sleeps(80));
    }

    private static void bookIndex() {
        Refused.index("guest 10", Scenes::busy, x -> x.book(10, 3, 1, 12));
        Refused.index("guest -1", Scenes::busy, x -> x.book(-1, 0, 0, 2));
        Refused.index("inn 4", Scenes::busy, x -> x.book(9, 4, 1, 12));
        Refused.index("inn -1", Scenes::busy, x -> x.book(0, -1, 0, 2));
        Refused.index("kind 2", Scenes::busy, x -> x.book(9, 3, 2, 12));
        Refused.index("kind -1", Scenes::busy, x -> x.book(0, 0, -1, 2));
    }

    private static void bookArgument() {
        Refused.argument("last night", Scenes::busy, x -> x.book(9, 3, 1, 1));
        Refused.argument("below 0", Scenes::busy, x -> x.book(9, 3, 1, -1));
        Refused.argument("11 more", Scenes::busy, x -> x.book(9, 3, 1, 13));
        Refused.argument("the most of all", Scenes::busy, x -> x.book(9, 3, 1, Integer.MAX_VALUE));
    }

    private static void bookEightyMade() {
        Refused.state("tonight", Scenes::fullOfBookings, x -> x.book(0, 0, 0, 0));
        Refused.state("ten nights on", Scenes::fullOfBookings, x -> x.book(9, 3, 1, 10));
        HostLeague x = Scenes.fullOfBookings();
        x.come(0);
        Scenes.nights(x, 20);
        Check.refuses("when all are over", Check.STATE, () -> x.book(0, 0, 0, 20));
        Check.due("the last that was made", 79, () -> x.bookings() - 1);
    }

    private static HostLeague withTenBooked() {
        HostLeague x = Scenes.withRooms(10, 10);
        for (int n = 0; n < 10; n++) {
            x.book(n, 3, 1, 10);
        }
        return x;
    }

    private static void bookTakesNoMore() {
        Refused.state("no rooms at all", HostLeague::new, x -> x.book(0, 0, 0, 0));
        Refused.state("all rooms are booked", Scenes::busy, x -> x.book(9, 3, 1, 2));
        Refused.state("ten rooms are booked", EdgesOfChanges::withTenBooked, x -> x.book(9, 3, 1, 10));
        HostLeague x = Scenes.withRooms(1, 10);
        x.book(0, 0, 0, 5);
        Check.refuses("one too many", Check.STATE, () -> x.book(0, 0, 0, 5));
        Check.due("the night before", 1, () -> x.book(0, 0, 0, 4));
        Check.due("the night behind", 2, () -> x.book(0, 0, 0, 6));
    }

    // ---- promise 6

    private static void comeFirstAndLast() {
        HostLeague x = Scenes.fullOfBookings();
        Check.due("the last of 80", 3, () -> x.come(79));
        Check.due("the first of 80", 0, () -> x.come(0));
        Check.due("sleeps by the last", 3, () -> x.sleeps(79));
        Check.due("points of its guest", 2, () -> x.points(9));
        Check.due("nobody else", -1, () -> x.sleeps(40));
        Check.due("78 did not come", 78, () -> x.night());
    }

    private static void comeBooking() {
        Refused.beyond("booking", 0, 18, Check.INDEX, Scenes::busy, (x, booking) -> x.come(booking));
        Refused.beyond("booking", 0, 79, Check.INDEX, Scenes::fullOfBookings, (x, booking) -> x.come(booking));
    }

    private static void comeReturns() {
        for (int i = 0; i < 4; i++) {
            int inn = i;
            HostLeague x = Scenes.withRooms(1, 10);
            x.book(0, inn, 1, 0);
            x.buyLinen(inn, 1);
            Check.due("inn", inn, () -> x.come(0));
            x.night();
            x.book(0, inn, 1, 1);
            Check.due("nowhere", -1, () -> x.come(1));
        }
    }

    private static void comeIndex() {
        Refused.index("none made", HostLeague::new, x -> x.come(0));
        Refused.index("-1", Scenes::busy, x -> x.come(-1));
        Refused.index("as many as were made", Scenes::busy, x -> x.come(x.bookings()));
        Refused.index("80, with 80 made", Scenes::fullOfBookings, x -> x.come(80));
    }

    private static void comeNotItsNight() {
        Refused.state("two nights ago", Scenes::busy, x -> x.come(5));
        Refused.state("tomorrow", Scenes::busy, x -> x.come(16));
        Refused.state("in eight nights", Scenes::busy, x -> x.come(18));
        HostLeague x = Scenes.busy();
        x.night();
        Check.due("tomorrow has come", 2, () -> x.come(16));
    }

    private static void comeHasCome() {
        Refused.state("tonight", Scenes::busy, x -> x.come(13));
        Refused.state("in a night that is over", Scenes::busy, x -> x.come(0));
        HostLeague x = Scenes.busy();
        x.setRooms(3, 1, 0, 50);
        x.setRooms(0, 1, 0, 50);
        x.setRooms(1, 1, 0, 50);
        x.setRooms(2, 1, 0, 50);
        Check.due("sleeps nowhere", -1, () -> x.come(14));
        x.setRooms(3, 1, 1, 50);
        Check.refuses("has come all the same", Check.STATE, () -> x.come(14));
        Check.due("another booking for the night", 3, () -> x.come(15));
    }

    // ---- promise 7

    /** Guest 4 has earned 110 points at inn 2; nobody else any. */
    private static HostLeague withPoints() {
        HostLeague x = Scenes.withRooms(10, 100);
        x.buyLinen(2, 20);
        for (int n = 0; n < 10; n++) {
            Scenes.comeNow(x, 4, 2);
        }
        x.come(x.book(4, 2, 1, 0));
        return x;
    }

    private static void burnOfOneGuest() {
        HostLeague x = Scenes.withRoomsAndLinen(3, 10, 5);
        Scenes.comeNow(x, 0, 1);
        Scenes.comeNow(x, 9, 1);
        x.burn(0, 2, 1);
        Check.due("its own", 0, () -> x.points(0));
        Check.due("not another one's", 1, () -> x.points(9));
        Check.due("a coin", 1, () -> x.owes(1, 2));
        Check.due("nothing is paid yet", 0, () -> x.purse(2));
    }

    private static void burnGuest() {
        Refused.beyond("guest", 0, 9, Check.INDEX, Scenes::busy, (x, guest) -> x.burn(guest, 2, 1));
        for (int guest : new int[] {0, 9}) {
            HostLeague x = Scenes.busy();
            int before = x.points(guest);
            Check.due("guest " + guest, before - 1, () -> x.burn(guest, 2, 1));
        }
    }

    private static void burnInn() {
        Refused.beyond("inn", 0, 3, Check.INDEX, Scenes::busy, (x, inn) -> x.burn(1, inn, 1));
        for (int inn : new int[] {0, 3}) {
            HostLeague x = withPoints();
            x.burn(4, inn, 7);
            Check.due("to inn " + inn, 7, () -> x.owes(2, inn));
        }
    }

    private static void burnPoints() {
        Refused.beyond("points", 1, 100, Check.ARGUMENT, EdgesOfChanges::withPoints, (x, points) -> x.burn(4, 0,
                points));
        for (int points : new int[] {1, 100}) {
            HostLeague x = withPoints();
            Check.due("points " + points, 110 - points, () -> x.burn(4, 0, points));
            Check.due("coins", points, () -> x.owes(2, 0));
        }
    }

    private static void burnReturns() {
        HostLeague x = withPoints();
        Check.due("all but ten", 10, () -> x.burn(4, 0, 100));
        Check.due("all but one", 1, () -> x.burn(4, 0, 9));
        Check.due("none is left", 0, () -> x.burn(4, 0, 1));
        Check.due("so it is kept", 0, () -> x.points(4));
    }

    private static void burnIndex() {
        Refused.index("guest 10", EdgesOfChanges::withPoints, x -> x.burn(10, 0, 1));
        Refused.index("guest -1", EdgesOfChanges::withPoints, x -> x.burn(-1, 0, 1));
        Refused.index("inn 4", EdgesOfChanges::withPoints, x -> x.burn(4, 4, 1));
        Refused.index("inn -1", EdgesOfChanges::withPoints, x -> x.burn(4, -1, 1));
    }

    private static void burnArgument() {
        Refused.argument("none", EdgesOfChanges::withPoints, x -> x.burn(4, 0, 0));
        Refused.argument("less than none", EdgesOfChanges::withPoints, x -> x.burn(4, 0, -1));
        Refused.argument("more than may be burnt at once", EdgesOfChanges::withPoints, x -> x.burn(4, 0, 101));
    }

    private static void burnTooMany() {
        Refused.state("one of none", EdgesOfChanges::withPoints, x -> x.burn(3, 0, 1));
        Refused.state("a hundred of none", HostLeague::new, x -> x.burn(4, 2, 100));
        Refused.state("one more than there are", Scenes::busy, x -> x.burn(1, 0, 6));
        HostLeague x = Scenes.busy();
        Check.due("as many as there are", 0, () -> x.burn(1, 0, 5));
        Check.refuses("one more", Check.STATE, () -> x.burn(1, 0, 1));
    }

    // ---- promise 8

    private static void nightEnds() {
        HostLeague x = Scenes.busy();
        Check.due("one sleeps", 1, () -> x.taken(0, 0));
        x.night();
        Check.due("a night later", 3, () -> x.today());
        for (int row = 0; row < 8; row++) {
            int inn = row / 2;
            int kind = row % 2;
            Check.due("nobody sleeps, as kept", 0, () -> x.taken(inn, kind));
            Check.due("nobody sleeps, as counted", 0, () -> x.takenByBookings(inn, kind));
        }
    }

    private static void nightReturns() {
        HostLeague x = Scenes.withRooms(3, 10);
        x.book(0, 0, 0, 0);
        x.book(1, 0, 0, 0);
        x.book(2, 3, 1, 0);
        x.book(3, 3, 1, 2);
        Check.due("slept nowhere, but came", -1, () -> x.come(0));
        Check.due("two of tonight's three", 2, () -> x.night());
        Check.due("none was booked", 0, () -> x.night());
        Check.due("the one", 1, () -> x.night());
        HostLeague y = Scenes.fullOfBookings();
        Check.due("all 80", 80, () -> y.night());
        HostLeague z = Scenes.fullOfBookings();
        for (int booking = 0; booking < 80; booking++) {
            z.come(booking);
        }
        Check.due("none of 80", 0, () -> z.night());
    }

    private static void nightThreeHundred() {
        HostLeague x = new HostLeague();
        Scenes.nights(x, 299);
        Check.due("the night 299", 299, () -> x.today());
        Check.due("ends", 0, () -> x.night());
        Check.due("the night 300", 300, () -> x.today());
        Check.refuses("does not end", Check.STATE, () -> x.night());
        Check.due("is the night still", 300, () -> x.today());
        Refused.state("with guests", Scenes::lastNight, y -> y.night());
        HostLeague z = Scenes.lastNight();
        z.come(2);
        Check.refuses("with one who sleeps", Check.STATE, () -> z.night());
        Check.due("sleeps on", 1, () -> z.taken(0, 0));
        Check.due("the linen stays away", 3, () -> z.away(0));
    }

    // ---- promise 9

    /** Each inn but the first one owes inn 0 a coin for each point of guest 4, by the numbers 1, 2 and 3. */
    private static HostLeague withDebts() {
        HostLeague x = new HostLeague();
        for (int inn = 1; inn < 4; inn++) {
            x.setRooms(inn, 0, 1, 10 * inn);
            x.buyLinen(inn, 1);
            Scenes.comeNow(x, 4, inn);
        }
        x.burn(4, 0, 6);
        return x;
    }

    private static void settleAll() {
        HostLeague x = withDebts();
        for (int i = 1; i < 4; i++) {
            int inn = i;
            Check.due("owes", inn, () -> x.owes(inn, 0));
        }
        x.settle();
        Check.due("has got all", 6, () -> x.purse(0));
        for (int i = 1; i < 4; i++) {
            int inn = i;
            Check.due("has paid", 10 * inn - inn, () -> x.purse(inn));
        }
        for (int p = 0; p < 16; p++) {
            int pair = p;
            Check.due("owes nothing", 0, () -> x.owes(pair / 4, pair % 4));
        }
    }

    private static void settleReturns() {
        HostLeague x = new HostLeague();
        Check.due("nothing is owed", 0, () -> x.settle());
        HostLeague y = withDebts();
        Check.due("all three", 6, () -> y.settle());
        Check.due("nothing is left", 0, () -> y.settle());
        y.night();
        Check.due("nor does a night make any", 0, () -> y.settle());
    }
}
