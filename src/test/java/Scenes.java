/** Objects that more than one test begins with. */
final class Scenes {
    private static final int[][] BUSY_BOOKINGS = {
        {0, 0, 0, 0}, {1, 0, 0, 0}, {2, 1, 1, 0}, {3, 3, 0, 0}, {4, 0, 1, 0},
        {5, 2, 0, 0}, {6, 2, 0, 0}, {7, 2, 1, 0}, {8, 2, 1, 0},
        {0, 1, 0, 1}, {1, 1, 0, 1}, {9, 0, 0, 1},
        {0, 0, 0, 2}, {1, 0, 0, 2}, {2, 3, 1, 2}, {3, 3, 1, 2},
        {4, 2, 0, 3}, {5, 1, 1, 4}, {9, 0, 1, 10},
    };

    private Scenes() {
    }

    static void nights(HostLeague x, int count) {
        for (int n = 0; n < count; n++) {
            x.night();
        }
    }

    /** Four inns that each have rooms of both kinds, and no linen. */
    static HostLeague withRooms(int rooms, int price) {
        HostLeague x = new HostLeague();
        for (int inn = 0; inn < 4; inn++) {
            x.setRooms(inn, 0, rooms, price);
            x.setRooms(inn, 1, rooms, price);
        }
        return x;
    }

    static HostLeague withRoomsAndLinen(int rooms, int price, int sets) {
        HostLeague x = withRooms(rooms, price);
        for (int inn = 0; inn < 4; inn++) {
            x.buyLinen(inn, sets);
        }
        return x;
    }

    /** Books a room of kind 0 for tonight and comes. */
    static int comeNow(HostLeague x, int guest, int inn) {
        return x.come(x.book(guest, inn, 0, x.today()));
    }

    /** The night 1, with so many bookings of the inn and kind that did not come, and no room there since. */
    static HostLeague missed(int inn, int kind, int bookings) {
        HostLeague x = new HostLeague();
        x.setRooms(inn, kind, 10, 10);
        for (int n = 0; n < bookings; n++) {
            x.book(n, inn, kind, 0);
        }
        x.setRooms(inn, kind, 0, 10);
        x.night();
        return x;
    }

    /**
     * The night 2 of a league with guests of all sorts behind it: eight different prices, points of
     * several inns, debts, linen at each stage of a laundry that is broken, an extra at inn 2.
     */
    static HostLeague busy() {
        HostLeague x = new HostLeague();
        for (int inn = 0; inn < 4; inn++) {
            x.setRooms(inn, 0, 2, 15 + 20 * inn);
            x.setRooms(inn, 1, 2, 22 + 20 * inn);
            x.buyLinen(inn, 1 + inn);
        }
        for (int[] b : BUSY_BOOKINGS) {
            x.book(b[0], b[1], b[2], b[3]);
        }
        for (int booking : new int[] {1, 0, 2, 3, 4}) {
            x.come(booking);
        }
        x.night();
        x.setRooms(1, 0, 1, 35);
        for (int booking : new int[] {11, 10, 9}) {
            x.come(booking);
        }
        x.night();
        x.setBroken(true);
        x.buyLinen(3, 8);
        x.come(13);
        x.setRooms(0, 0, 1, 17);
        return x;
    }

    /** Ten rooms of each kind everywhere, and 80 bookings for the night 0: as many as may be made. */
    static HostLeague fullOfBookings() {
        HostLeague x = withRoomsAndLinen(10, 20, 20);
        for (int b = 0; b < 80; b++) {
            x.book(b % 10, b / 20, b / 10 % 2, 0);
        }
        return x;
    }

    /** The night 300, with a booking for it, number 2, and linen of the two nights before in the laundry. */
    static HostLeague lastNight() {
        HostLeague x = new HostLeague();
        nights(x, 298);
        x.setRooms(0, 0, 2, 30);
        x.buyLinen(0, 5);
        comeNow(x, 5, 0);
        x.night();
        comeNow(x, 5, 0);
        x.night();
        x.book(5, 0, 0, 300);
        return x;
    }
}
