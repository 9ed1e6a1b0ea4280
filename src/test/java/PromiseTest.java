/** One method for each promise of the document: ordinary inputs, named edges, wrong inputs. */
public final class PromiseTest {
    private static final int[] NO_INNS = {-1, 4, Integer.MIN_VALUE, Integer.MAX_VALUE};
    private static final int[] NO_KINDS = {-1, 2, Integer.MIN_VALUE, Integer.MAX_VALUE};
    private static final int[] NO_GUESTS = {-1, 10, Integer.MIN_VALUE, Integer.MAX_VALUE};

    private PromiseTest() {
    }

    public static void main(String[] args) {
        promise1NewObject();
        promise1FirstPrice();
        promise2SetRooms();
        promise2Price();
        promise3BuyLinen();
        promise4SetBroken();
        promise5Book();
        promise5EightyBookings();
        promise5Extra();
        promise6ComeRefused();
        promise6Nearest();
        promise6Linen();
        promise6Paying();
        promise6PricesOfNow();
        promise7Burn();
        promise7Earliest();
        promise8Night();
        promise8Night300();
        promise9Settle();
        promise10Today();
        promise11Bookings();
        promise12Free();
        promise13And14Taken();
        promise15Extra();
        promise15Fourth();
        promise16And17Linen();
        promise17Broken();
        promise18Sleeps();
        promise19Points();
        promise20Owes();
        promise21Purse();
        Check.finish("PromiseTest");
    }

    private static void unchanged(String what, String before, HostLeague x) {
        Check.same(what + " changes nothing", before, State.of(x));
    }

    private static void promise1NewObject() {
        HostLeague x = new HostLeague();
        Check.due("1 today", 0, () -> x.today());
        Check.due("1 bookings", 0, () -> x.bookings());
        for (int i = 0; i < 4; i++) {
            int inn = i;
            Check.due("1 clean", 0, () -> x.clean(inn));
            Check.due("1 away", 0, () -> x.away(inn));
            Check.due("1 extra", 0, () -> x.extra(inn));
            Check.due("1 purse", 0, () -> x.purse(inn));
            for (int other = 0; other < 4; other++) {
                int to = other;
                Check.due("1 owes", 0, () -> x.owes(inn, to));
            }
            for (int k = 0; k < 2; k++) {
                int kind = k;
                Check.due("1 free", 0, () -> x.free(inn, kind));
                Check.due("1 taken", 0, () -> x.taken(inn, kind));
                Check.due("1 takenByBookings", 0, () -> x.takenByBookings(inn, kind));
                Check.due("1 rooms at first", 0, () -> x.setRooms(inn, kind, 0, 1));
            }
        }
        for (int g = 0; g < 10; g++) {
            int guest = g;
            Check.due("1 points", 0, () -> x.points(guest));
        }
        Check.refuses("1 no booking", Check.INDEX, () -> x.sleeps(0));
        Check.due("1 laundry works", 0, () -> x.setBroken(false) ? 1 : 0);
    }

    /** A kind that was never set takes bookings by the extra alone, at the price of the beginning. */
    private static void promise1FirstPrice() {
        for (int i = 0; i < 4; i++) {
            int inn = i;
            for (int k = 0; k < 2; k++) {
                int kind = k;
                HostLeague x = new HostLeague();
                x.setRooms(inn, 1 - kind, 4, 99);
                for (int guest = 0; guest < 4; guest++) {
                    x.book(guest, inn, 1 - kind, 0);
                }
                x.night();
                Check.due("1 booked by the extra", 4, () -> x.book(0, inn, kind, 1));
                Check.refuses("1 the extra is one", Check.STATE, () -> x.book(0, inn, kind, 1));
                int other = (inn + 2) % 4;
                x.setRooms(other, kind, 1, 35);
                x.buyLinen(other, 1);
                Check.due("1 sent on", other, () -> x.come(4));
                Check.due("1 the first price", 10, () -> x.purse(inn));
                Check.due("1 what that costs", 35, () -> x.owes(inn, other));
                Check.due("1 taken there", 1, () -> x.taken(other, kind));
                x.night();
                Check.due("1 taken until the night ends", 0, () -> x.taken(other, kind));
            }
        }
    }

    private static void promise2SetRooms() {
        HostLeague x = new HostLeague();
        Check.due("2 first", 0, () -> x.setRooms(3, 1, 10, 100));
        Check.due("2 second", 10, () -> x.setRooms(3, 1, 0, 1));
        Check.due("2 third", 0, () -> x.setRooms(3, 1, 4, 7));
        Check.due("2 other kind", 0, () -> x.setRooms(3, 0, 2, 7));
        Check.due("2 other inn", 0, () -> x.setRooms(2, 1, 3, 7));
        Check.due("2 free", 4, () -> x.free(3, 1));
        String before = State.of(x);
        for (int inn : NO_INNS) {
            Check.refuses("2 inn " + inn, Check.INDEX, () -> x.setRooms(inn, 0, 1, 1));
            Check.refuses("2 inn first " + inn, Check.INDEX, () -> x.setRooms(inn, 0, 11, 0));
        }
        for (int kind : NO_KINDS) {
            Check.refuses("2 kind " + kind, Check.INDEX, () -> x.setRooms(0, kind, 1, 1));
            Check.refuses("2 kind first " + kind, Check.INDEX, () -> x.setRooms(0, kind, -1, 101));
        }
        for (int rooms : new int[] {-1, 11, Integer.MIN_VALUE, Integer.MAX_VALUE}) {
            Check.refuses("2 rooms " + rooms, Check.ARGUMENT, () -> x.setRooms(3, 1, rooms, 1));
        }
        for (int price : new int[] {0, 101, -1, Integer.MIN_VALUE, Integer.MAX_VALUE}) {
            Check.refuses("2 price " + price, Check.ARGUMENT, () -> x.setRooms(3, 1, 1, price));
        }
        unchanged("2 refused", before, x);
        Check.due("2 rooms kept", 4, () -> x.setRooms(3, 1, 0, 7));
    }

    private static void promise2Price() {
        HostLeague x = new HostLeague();
        x.setRooms(0, 0, 1, 42);
        x.buyLinen(0, 1);
        Check.refuses("2 price too high", Check.ARGUMENT, () -> x.setRooms(0, 0, 1, 101));
        Check.refuses("2 rooms too many", Check.ARGUMENT, () -> x.setRooms(0, 0, 11, 99));
        x.book(0, 0, 0, 0);
        x.come(0);
        Check.due("2 a refused price is not kept", 42, () -> x.purse(0));
    }

    private static void promise3BuyLinen() {
        HostLeague x = new HostLeague();
        Check.due("3 one", 1, () -> x.buyLinen(2, 1));
        Check.due("3 twenty more", 21, () -> x.buyLinen(2, 20));
        Check.due("3 other inn", 3, () -> x.buyLinen(0, 3));
        Check.due("3 kept", 21, () -> x.clean(2));
        Check.due("3 costs nothing", 0, () -> x.purse(2));
        String before = State.of(x);
        for (int inn : NO_INNS) {
            Check.refuses("3 inn " + inn, Check.INDEX, () -> x.buyLinen(inn, 1));
            Check.refuses("3 inn first " + inn, Check.INDEX, () -> x.buyLinen(inn, 0));
        }
        for (int sets : new int[] {0, 21, -1, Integer.MIN_VALUE, Integer.MAX_VALUE}) {
            Check.refuses("3 sets " + sets, Check.ARGUMENT, () -> x.buyLinen(2, sets));
        }
        unchanged("3 refused", before, x);
    }

    private static void promise4SetBroken() {
        HostLeague x = new HostLeague();
        Check.due("4 was not", 0, () -> x.setBroken(true) ? 1 : 0);
        Check.due("4 was", 1, () -> x.setBroken(true) ? 1 : 0);
        Check.due("4 still was", 1, () -> x.setBroken(false) ? 1 : 0);
        Check.due("4 was mended", 0, () -> x.setBroken(false) ? 1 : 0);
        x.setBroken(true);
        x.night();
        Check.due("4 a night mends nothing", 1, () -> x.setBroken(false) ? 1 : 0);
    }

    private static void promise5Book() {
        HostLeague x = new HostLeague();
        x.setRooms(1, 1, 2, 10);
        Scenes.nights(x, 3);
        Check.due("5 tonight", 0, () -> x.book(9, 1, 1, 3));
        Check.due("5 ten ahead", 1, () -> x.book(0, 1, 1, 13));
        Check.due("5 second of a night", 2, () -> x.book(9, 1, 1, 3));
        String before = State.of(x);
        for (int guest : NO_GUESTS) {
            Check.refuses("5 guest " + guest, Check.INDEX, () -> x.book(guest, 1, 1, 4));
            Check.refuses("5 guest first " + guest, Check.INDEX, () -> x.book(guest, 1, 0, 99));
        }
        for (int inn : NO_INNS) {
            Check.refuses("5 inn " + inn, Check.INDEX, () -> x.book(0, inn, 1, 4));
            Check.refuses("5 inn first " + inn, Check.INDEX, () -> x.book(0, inn, 1, 2));
        }
        for (int kind : NO_KINDS) {
            Check.refuses("5 kind " + kind, Check.INDEX, () -> x.book(0, 1, kind, 4));
            Check.refuses("5 kind first " + kind, Check.INDEX, () -> x.book(0, 1, kind, 14));
        }
        for (int night : new int[] {2, 14, -1, Integer.MIN_VALUE, Integer.MAX_VALUE}) {
            Check.refuses("5 night " + night, Check.ARGUMENT, () -> x.book(0, 1, 1, night));
            Check.refuses("5 night before fullness " + night, Check.ARGUMENT, () -> x.book(0, 0, 0, night));
        }
        Check.refuses("5 third of a night", Check.STATE, () -> x.book(5, 1, 1, 3));
        Check.refuses("5 no rooms of the kind", Check.STATE, () -> x.book(5, 1, 0, 3));
        Check.refuses("5 no rooms at the inn", Check.STATE, () -> x.book(5, 0, 1, 3));
        unchanged("5 refused", before, x);
        Check.due("5 another night", 3, () -> x.book(5, 1, 1, 4));
        Check.due("5 after a refusal", 4, () -> x.book(5, 1, 1, 13));
        x.buyLinen(1, 5);
        x.come(0);
        Check.refuses("5 who came counts on", Check.STATE, () -> x.book(5, 1, 1, 3));
        x.setRooms(1, 1, 1, 10);
        Check.refuses("5 rooms of now", Check.STATE, () -> x.book(5, 1, 1, 4));
    }

    private static void promise5EightyBookings() {
        HostLeague x = Scenes.withRooms(10, 10);
        for (int b = 0; b < 80; b++) {
            int booking = b;
            Check.due("5 booking " + b, b, () -> x.book(booking % 10, booking / 20, booking / 10 % 2, 0));
        }
        Check.due("5 eighty", 80, () -> x.bookings());
        Check.refuses("5 the 81st", Check.STATE, () -> x.book(0, 0, 0, 1));
        Check.refuses("5 the 81st at a wrong night", Check.ARGUMENT, () -> x.book(0, 0, 0, 11));
        Check.refuses("5 the 81st by nobody", Check.INDEX, () -> x.book(10, 0, 0, 0));
        Check.due("5 eighty still", 80, () -> x.bookings());
        Check.due("5 no guest has come by the last", -1, () -> x.sleeps(79));
        Check.refuses("5 no booking 80", Check.INDEX, () -> x.come(80));
        for (int n = 0; n < 4; n++) {
            x.buyLinen(n, 20);
        }
        for (int b = 0; b < 80; b++) {
            int booking = b;
            Check.due("6 come " + b, b / 20, () -> x.come(booking));
        }
        Check.due("19 eight lots", 8, () -> x.points(9));
        Check.due("7 of the last lot", 0, () -> x.burn(9, 0, 8));
        Check.due("20 for points of inn 3", 2, () -> x.owes(3, 0));
    }

    private static void promise5Extra() {
        HostLeague x = new HostLeague();
        x.setRooms(0, 0, 4, 10);
        for (int guest = 0; guest < 4; guest++) {
            x.book(guest, 0, 0, 0);
        }
        x.night();
        x.setRooms(0, 0, 1, 10);
        Check.due("5 a room", 4, () -> x.book(0, 0, 0, 1));
        Check.due("5 an extra", 5, () -> x.book(1, 0, 0, 1));
        Check.refuses("5 no more", Check.STATE, () -> x.book(2, 0, 0, 1));
        Check.due("5 an extra of the inn, of either kind", 6, () -> x.book(2, 0, 1, 1));
        Check.refuses("5 no more of the other kind", Check.STATE, () -> x.book(3, 0, 1, 1));
        Check.refuses("5 not at another inn", Check.STATE, () -> x.book(3, 1, 0, 1));
        Check.due("5 an extra for later nights", 7, () -> x.book(3, 0, 1, 11));
    }

    private static void promise6ComeRefused() {
        HostLeague x = Scenes.withRooms(2, 10);
        x.buyLinen(0, 5);
        x.book(0, 0, 0, 0);
        x.book(1, 0, 0, 1);
        x.book(2, 0, 0, 0);
        Check.due("6 comes", 0, () -> x.come(0));
        String before = State.of(x);
        for (int booking : new int[] {-1, 3, 80, Integer.MIN_VALUE, Integer.MAX_VALUE}) {
            Check.refuses("6 booking " + booking, Check.INDEX, () -> x.come(booking));
        }
        Check.refuses("6 twice", Check.STATE, () -> x.come(0));
        Check.refuses("6 too early", Check.STATE, () -> x.come(1));
        unchanged("6 refused", before, x);
        x.night();
        Check.refuses("6 too late", Check.STATE, () -> x.come(2));
        Check.refuses("6 came by it, and too late", Check.STATE, () -> x.come(0));
        Check.due("6 on its night", 0, () -> x.come(1));

        HostLeague y = new HostLeague();
        y.setRooms(0, 0, 1, 10);
        y.book(0, 0, 0, 0);
        Check.due("6 nowhere without linen", -1, () -> y.come(0));
        y.buyLinen(0, 1);
        Check.refuses("6 who sleeps nowhere has come", Check.STATE, () -> y.come(0));
        Check.due("6 who sleeps nowhere has not failed to come", 0, () -> y.night());
    }

    /** Four guests of each inn where every inn has one room: where each one goes. */
    private static void promise6Nearest() {
        int[][] order = {{0, 1, 3, 2}, {1, 0, 2, 3}, {2, 1, 3, 0}, {3, 0, 2, 1}};
        for (int h = 0; h < 4; h++) {
            int home = h;
            for (int k = 0; k < 2; k++) {
                HostLeague x = new HostLeague();
                x.setRooms(home, k, 5, 10);
                x.buyLinen(home, 20);
                for (int guest = 0; guest < 5; guest++) {
                    x.book(guest, home, k, 0);
                }
                for (int inn = 0; inn < 4; inn++) {
                    x.setRooms(inn, k, 1, 10);
                    x.setRooms(inn, 1 - k, 0, 10);
                }
                for (int n = 0; n < 4; n++) {
                    int booking = n;
                    Check.due("6 guest " + n + " of inn " + home, order[home][n], () -> x.come(booking));
                }
                x.setRooms(home, 1 - k, 9, 10);
                Check.due("6 no room of the kind", -1, () -> x.come(4));
                Check.due("6 no set for nobody", 16, () -> x.clean(home));
            }
        }
    }

    private static void promise6Linen() {
        HostLeague x = Scenes.withRooms(5, 1);
        for (int guest = 0; guest < 5; guest++) {
            x.book(guest, 0, 0, 0);
        }
        x.book(5, 1, 0, 0);
        x.book(6, 0, 0, 1);
        x.buyLinen(1, 1);
        x.buyLinen(2, 2);
        x.buyLinen(3, 2);
        Check.due("6 a guest stays where linen can be borrowed", 0, () -> x.come(0));
        Check.due("6 from the most, the lower number", 1, () -> x.owes(0, 2));
        x.come(1);
        Check.due("6 then from the one with most", 2, () -> x.owes(0, 3));
        x.come(2);
        Check.due("6 of three with one each the lowest", 3, () -> x.owes(0, 1));
        Check.due("6 its own is gone", 0, () -> x.clean(1));
        x.come(5);
        Check.due("6 a count over all inns", 4, () -> x.owes(1, 2));
        Check.due("6 the borrower's", 3, () -> x.away(0));
        Check.due("6 not the lender's", 0, () -> x.away(2));
        Check.due("6 the last set", 0, () -> x.come(3));
        Check.due("6 five coins for it", 7, () -> x.owes(0, 3));
        Check.due("6 none is left", -1, () -> x.come(4));
        Check.due("6 none is left, nothing is paid", 4, () -> x.purse(0));
        x.night();
        x.buyLinen(2, 1);
        x.come(6);
        Check.due("6 a new night counts anew", 2, () -> x.owes(0, 2));
        x.night();
        x.night();
        x.buyLinen(0, 1);
        x.book(0, 0, 0, 3);
        int clean = x.clean(0);
        x.come(7);
        Check.due("6 its own first", clean - 1, () -> x.clean(0));
    }

    private static void promise6Paying() {
        HostLeague x = new HostLeague();
        x.setRooms(0, 1, 3, 37);
        x.setRooms(1, 1, 1, 99);
        x.setRooms(1, 0, 1, 3);
        x.buyLinen(0, 1);
        x.buyLinen(1, 1);
        x.book(4, 0, 1, 0);
        x.book(4, 0, 1, 0);
        x.book(4, 0, 1, 0);
        x.setRooms(0, 1, 1, 37);
        x.come(0);
        Check.due("6 the price", 37, () -> x.purse(0));
        Check.due("6 a tenth, rounded down", 3, () -> x.points(4));
        Check.due("6 sent on", 1, () -> x.come(1));
        Check.due("6 pays the booked inn's price", 74, () -> x.purse(0));
        Check.due("6 the other is owed its own price", 99, () -> x.owes(0, 1));
        Check.due("6 the other gets nothing yet", 0, () -> x.purse(1));
        Check.due("6 earns where it sleeps", 12, () -> x.points(4));
        Check.due("6 nowhere", -1, () -> x.come(2));
        Check.due("6 nowhere, no pay", 74, () -> x.purse(0));
        Check.due("6 nowhere, no points", 12, () -> x.points(4));
        Check.due("6 nowhere, no debt", 99, () -> x.owes(0, 1));
    }

    private static void promise6PricesOfNow() {
        HostLeague x = Scenes.withRooms(1, 10);
        x.buyLinen(0, 5);
        x.book(0, 0, 0, 0);
        x.setRooms(0, 0, 1, 55);
        x.setRooms(0, 1, 1, 77);
        x.come(0);
        Check.due("6 the price of now", 55, () -> x.purse(0));
        x.setRooms(0, 0, 1, 90);
        Check.due("6 earned before", 5, () -> x.points(0));

        HostLeague y = new HostLeague();
        y.setRooms(2, 0, 1, 9);
        y.buyLinen(2, 1);
        y.book(0, 2, 0, 0);
        y.come(0);
        Check.due("6 no point for 9 coins", 0, () -> y.points(0));
        Check.refuses("7 no point", Check.STATE, () -> y.burn(0, 2, 1));
    }

    private static void promise7Burn() {
        HostLeague x = Scenes.withRooms(10, 100);
        x.buyLinen(1, 20);
        for (int n = 0; n < 10; n++) {
            x.book(3, 1, 0, 0);
            x.come(n);
        }
        x.book(3, 1, 1, 0);
        x.come(10);
        Check.due("7 a hundred and ten", 110, () -> x.points(3));
        String before = State.of(x);
        for (int guest : NO_GUESTS) {
            Check.refuses("7 guest " + guest, Check.INDEX, () -> x.burn(guest, 0, 1));
            Check.refuses("7 guest first " + guest, Check.INDEX, () -> x.burn(guest, 0, 0));
        }
        for (int inn : NO_INNS) {
            Check.refuses("7 inn " + inn, Check.INDEX, () -> x.burn(3, inn, 1));
            Check.refuses("7 inn first " + inn, Check.INDEX, () -> x.burn(3, inn, 101));
        }
        for (int points : new int[] {0, 101, -1, Integer.MIN_VALUE, Integer.MAX_VALUE}) {
            Check.refuses("7 points " + points, Check.ARGUMENT, () -> x.burn(3, 0, points));
            Check.refuses("7 points first " + points, Check.ARGUMENT, () -> x.burn(4, 0, points));
        }
        Check.refuses("7 another guest", Check.STATE, () -> x.burn(4, 0, 1));
        unchanged("7 refused", before, x);
        Check.due("7 a hundred", 10, () -> x.burn(3, 0, 100));
        Check.due("7 a coin a point", 100, () -> x.owes(1, 0));
        Check.refuses("7 one too many", Check.STATE, () -> x.burn(3, 0, 11));
        Check.due("7 at the inn itself", 9, () -> x.burn(3, 1, 1));
        Check.due("7 no debt to itself", 0, () -> x.owes(1, 1));
        Check.due("7 debt as before", 100, () -> x.owes(1, 0));
        Check.due("7 all", 0, () -> x.burn(3, 2, 9));
        Check.due("7 for inn 2", 9, () -> x.owes(1, 2));
        Check.due("7 nothing is paid by it", 1100, () -> x.purse(1));
        Check.due("7 nothing is got by it", 0, () -> x.purse(0));
    }

    /** Earliest is what was earned first, not what was booked first. */
    private static void promise7Earliest() {
        HostLeague x = Scenes.withRooms(3, 30);
        for (int inn = 0; inn < 4; inn++) {
            x.buyLinen(inn, 5);
        }
        x.book(0, 0, 0, 0);
        x.book(0, 1, 0, 0);
        x.book(7, 3, 0, 0);
        x.book(0, 2, 0, 1);
        x.come(2);
        x.come(1);
        x.come(0);
        x.night();
        x.come(3);
        Check.due("7 nine points", 9, () -> x.points(0));
        Check.due("7 two of inn 1", 7, () -> x.burn(0, 3, 2));
        Check.due("7 inn 1 first", 2, () -> x.owes(1, 3));
        Check.due("7 inn 0 not yet", 0, () -> x.owes(0, 3));
        Check.due("7 over two lots", 4, () -> x.burn(0, 3, 3));
        Check.due("7 the rest of inn 1", 3, () -> x.owes(1, 3));
        Check.due("7 then inn 0", 2, () -> x.owes(0, 3));
        Check.due("7 over the rest", 0, () -> x.burn(0, 0, 4));
        Check.due("7 none for its own", 2, () -> x.owes(0, 3));
        Check.due("7 inn 2 last", 3, () -> x.owes(2, 0));
        Check.due("7 another guest's points stay", 3, () -> x.points(7));
    }

    private static void promise8Night() {
        HostLeague x = Scenes.withRooms(5, 10);
        x.buyLinen(0, 5);
        x.book(0, 0, 0, 0);
        x.book(1, 1, 1, 0);
        x.book(2, 2, 0, 1);
        x.book(3, 3, 1, 0);
        x.come(0);
        Check.due("8 two did not come", 2, () -> x.night());
        Check.due("8 nobody sleeps", 0, () -> x.taken(0, 0));
        Check.due("8 nobody sleeps by bookings", 0, () -> x.takenByBookings(0, 0));
        Check.due("8 a night later", 1, () -> x.today());
        Check.due("8 one did not come", 1, () -> x.night());
        Check.due("8 none was booked", 0, () -> x.night());
    }

    private static void promise8Night300() {
        HostLeague x = new HostLeague();
        x.setRooms(0, 0, 1, 10);
        Scenes.nights(x, 300);
        Check.due("8 night 300", 300, () -> x.today());
        x.book(0, 0, 0, 300);
        Check.due("5 beyond night 300", 1, () -> x.book(0, 0, 0, 310));
        x.buyLinen(0, 1);
        Check.due("6 in night 300", 0, () -> x.come(0));
        String before = State.of(x);
        Check.refuses("8 ends no more", Check.STATE, () -> x.night());
        unchanged("8 refused", before, x);
    }

    private static void promise9Settle() {
        HostLeague x = Scenes.withRooms(3, 20);
        Check.due("9 nothing", 0, () -> x.settle());
        x.buyLinen(0, 20);
        x.buyLinen(1, 20);
        x.book(0, 0, 0, 0);
        x.book(1, 0, 0, 0);
        x.book(2, 3, 1, 0);
        x.setRooms(0, 0, 0, 5);
        x.setRooms(1, 0, 1, 100);
        x.setRooms(3, 1, 0, 5);
        x.setRooms(0, 1, 0, 20);
        x.come(0);
        x.come(1);
        x.come(2);
        Check.due("20 inn 0 to 1", 100, () -> x.owes(0, 1));
        Check.due("20 inn 0 to 3, less a set of linen", 19, () -> x.owes(0, 3));
        Check.due("20 inn 3 to 2", 20, () -> x.owes(3, 2));
        Check.due("20 inn 2 to 0, for linen", 2, () -> x.owes(2, 0));
        Check.due("9 over all pairs", 141, () -> x.settle());
        Check.due("21 inn 0", -107, () -> x.purse(0));
        Check.due("21 inn 1", 100, () -> x.purse(1));
        Check.due("21 inn 2", 18, () -> x.purse(2));
        Check.due("21 inn 3", 4, () -> x.purse(3));
        for (int i = 0; i < 16; i++) {
            int pair = i;
            Check.due("20 settled", 0, () -> x.owes(pair / 4, pair % 4));
        }
        Check.due("9 settled", 0, () -> x.settle());
        Check.due("21 stays", -107, () -> x.purse(0));
    }

    private static void promise10Today() {
        HostLeague x = new HostLeague();
        for (int n = 0; n < 20; n++) {
            int night = n;
            Check.due("10 today", night, () -> x.today());
            x.night();
        }
    }

    private static void promise11Bookings() {
        HostLeague x = Scenes.withRooms(2, 10);
        x.book(0, 0, 0, 5);
        Check.due("11 one", 1, () -> x.bookings());
        x.book(0, 0, 0, 5);
        Check.refuses("11 refused", Check.STATE, () -> x.book(0, 0, 0, 5));
        Check.due("11 two", 2, () -> x.bookings());
        Scenes.nights(x, 6);
        Check.due("11 what is over counts on", 2, () -> x.bookings());
    }

    private static void promise12Free() {
        HostLeague x = Scenes.withRooms(3, 10);
        x.buyLinen(1, 9);
        x.book(0, 1, 0, 0);
        x.book(1, 1, 0, 0);
        Check.due("12 booked rooms are free", 3, () -> x.free(1, 0));
        x.come(0);
        x.come(1);
        Check.due("12 one is left", 1, () -> x.free(1, 0));
        Check.due("12 the other kind", 3, () -> x.free(1, 1));
        x.setRooms(1, 0, 2, 10);
        Check.due("12 none is left", 0, () -> x.free(1, 0));
        x.setRooms(1, 0, 1, 10);
        Check.due("12 at least 0", 0, () -> x.free(1, 0));
        Check.due("13 both sleep on", 2, () -> x.taken(1, 0));
        x.night();
        Check.due("12 a new night", 1, () -> x.free(1, 0));
        for (int inn : NO_INNS) {
            Check.refuses("12 inn " + inn, Check.INDEX, () -> x.free(inn, 0));
            Check.refuses("13 inn " + inn, Check.INDEX, () -> x.taken(inn, 0));
            Check.refuses("14 inn " + inn, Check.INDEX, () -> x.takenByBookings(inn, 0));
        }
        for (int kind : NO_KINDS) {
            Check.refuses("12 kind " + kind, Check.INDEX, () -> x.free(0, kind));
            Check.refuses("13 kind " + kind, Check.INDEX, () -> x.taken(0, kind));
            Check.refuses("14 kind " + kind, Check.INDEX, () -> x.takenByBookings(0, kind));
        }
    }

    private static void promise13And14Taken() {
        HostLeague x = Scenes.withRooms(3, 10);
        x.buyLinen(2, 9);
        x.book(0, 2, 1, 0);
        x.book(1, 2, 1, 0);
        x.book(2, 2, 0, 0);
        x.book(3, 2, 1, 1);
        x.setRooms(2, 1, 1, 10);
        taken(x, 2, 1, 0);
        x.come(0);
        taken(x, 2, 1, 1);
        x.come(1);
        taken(x, 2, 1, 1);
        taken(x, 1, 1, 1);
        x.come(2);
        taken(x, 2, 0, 1);
        taken(x, 2, 1, 1);
        taken(x, 0, 0, 0);
        x.night();
        taken(x, 2, 1, 0);
        taken(x, 2, 0, 0);
        taken(x, 1, 1, 0);
        x.come(3);
        taken(x, 2, 1, 1);
    }

    private static void taken(HostLeague x, int inn, int kind, int want) {
        Check.due("13 taken", want, () -> x.taken(inn, kind));
        Check.due("14 takenByBookings", want, () -> x.takenByBookings(inn, kind));
    }

    private static void promise15Extra() {
        HostLeague x = Scenes.withRooms(10, 10);
        x.buyLinen(0, 20);
        for (int n = 0; n < 7; n++) {
            x.book(n, 0, n % 2, 0);
        }
        for (int n = 0; n < 3; n++) {
            x.book(n, 0, 0, 1);
        }
        x.book(7, 1, 0, 0);
        x.book(9, 0, 0, 1);
        x.come(0);
        Check.due("15 the night is not over", 0, () -> x.extra(0));
        x.night();
        Check.due("15 six of 4 nights", 1, () -> x.extra(0));
        Check.due("15 one of another inn", 0, () -> x.extra(1));
        x.come(11);
        x.night();
        Check.due("15 nine", 2, () -> x.extra(0));
        Scenes.nights(x, 2);
        Check.due("15 the last 4 nights", 2, () -> x.extra(0));
        x.night();
        Check.due("15 three of the last 4 nights", 0, () -> x.extra(0));
        for (int inn : NO_INNS) {
            Check.refuses("15 inn " + inn, Check.INDEX, () -> x.extra(inn));
        }
    }

    private static void promise15Fourth() {
        for (int m = 0; m < 10; m++) {
            int missed = m;
            HostLeague x = Scenes.withRooms(10, 10);
            for (int guest = 0; guest < missed; guest++) {
                x.book(guest, 0, 0, 0);
            }
            Check.due("8 " + missed + " did not come", missed, () -> x.night());
            Check.due("15 a fourth of " + missed, missed / 4, () -> x.extra(0));
        }
    }

    private static void promise16And17Linen() {
        HostLeague x = Scenes.withRooms(5, 10);
        x.buyLinen(0, 2);
        x.buyLinen(1, 1);
        x.book(0, 0, 0, 0);
        x.book(1, 0, 1, 1);
        x.book(2, 0, 0, 1);
        x.come(0);
        linen(x, 0, 1, 1);
        x.night();
        linen(x, 0, 1, 1);
        x.come(1);
        x.come(2);
        linen(x, 0, 0, 3);
        linen(x, 1, 0, 0);
        x.night();
        linen(x, 0, 0, 3);
        x.night();
        linen(x, 0, 1, 2);
        x.night();
        linen(x, 0, 3, 0);
        linen(x, 1, 0, 0);
        for (int inn : NO_INNS) {
            Check.refuses("16 inn " + inn, Check.INDEX, () -> x.clean(inn));
            Check.refuses("17 inn " + inn, Check.INDEX, () -> x.away(inn));
        }
    }

    private static void promise17Broken() {
        HostLeague x = Scenes.withRooms(5, 10);
        x.buyLinen(0, 5);
        for (int n = 0; n < 4; n++) {
            x.book(n, 0, 0, n);
        }
        x.setBroken(true);
        x.come(0);
        x.night();
        x.come(1);
        x.night();
        x.setBroken(false);
        linen(x, 0, 3, 2);
        x.night();
        linen(x, 0, 4, 1);
        x.come(3);
        x.setBroken(true);
        x.night();
        linen(x, 0, 3, 2);
        Scenes.nights(x, 3);
        linen(x, 0, 3, 2);
        x.setBroken(false);
        linen(x, 0, 3, 2);
        x.setBroken(true);
        x.night();
        linen(x, 0, 3, 2);
        x.setBroken(false);
        x.night();
        linen(x, 0, 5, 0);
    }

    private static void linen(HostLeague x, int inn, int clean, int away) {
        Check.due("16 clean", clean, () -> x.clean(inn));
        Check.due("17 away", away, () -> x.away(inn));
    }

    private static void promise18Sleeps() {
        HostLeague x = Scenes.withRooms(2, 10);
        x.buyLinen(2, 2);
        x.book(0, 2, 0, 0);
        x.book(1, 2, 0, 0);
        x.setRooms(2, 0, 1, 10);
        Check.due("18 has not come", -1, () -> x.sleeps(0));
        x.come(0);
        x.come(1);
        Check.due("18 sleeps", 2, () -> x.sleeps(0));
        Check.due("18 sleeps elsewhere", 1, () -> x.sleeps(1));
        x.night();
        Check.due("18 slept", 2, () -> x.sleeps(0));
        Check.due("18 slept elsewhere", 1, () -> x.sleeps(1));
        x.book(0, 0, 0, 1);
        x.come(2);
        Check.due("18 sleeps nowhere", -1, () -> x.sleeps(2));
        for (int booking : new int[] {-1, 3, 80, Integer.MIN_VALUE, Integer.MAX_VALUE}) {
            Check.refuses("18 booking " + booking, Check.INDEX, () -> x.sleeps(booking));
        }
    }

    private static void promise19Points() {
        HostLeague x = Scenes.withRooms(5, 39);
        x.buyLinen(2, 9);
        x.book(0, 2, 0, 0);
        x.book(9, 2, 0, 0);
        x.book(0, 2, 1, 0);
        x.come(0);
        Check.due("19 three", 3, () -> x.points(0));
        x.come(1);
        x.come(2);
        Check.due("19 six", 6, () -> x.points(0));
        Check.due("19 guest 9", 3, () -> x.points(9));
        x.burn(0, 2, 4);
        Check.due("19 two", 2, () -> x.points(0));
        x.night();
        Check.due("19 a night takes none", 2, () -> x.points(0));
        for (int guest : NO_GUESTS) {
            Check.refuses("19 guest " + guest, Check.INDEX, () -> x.points(guest));
        }
    }

    private static void promise20Owes() {
        HostLeague x = Scenes.withRooms(2, 40);
        x.setRooms(1, 0, 2, 70);
        x.buyLinen(0, 9);
        x.buyLinen(1, 9);
        x.book(0, 0, 0, 0);
        x.book(1, 1, 1, 0);
        x.setRooms(0, 0, 0, 40);
        x.setRooms(1, 1, 0, 40);
        x.come(0);
        Check.due("20 owes", 70, () -> x.owes(0, 1));
        Check.due("20 is owed", 0, () -> x.owes(1, 0));
        x.come(1);
        Check.due("20 what is left", 30, () -> x.owes(0, 1));
        Check.due("20 nothing the other way", 0, () -> x.owes(1, 0));
        x.burn(1, 1, 4);
        Check.due("20 four more", 34, () -> x.owes(0, 1));
        x.burn(0, 0, 7);
        Check.due("20 seven less", 27, () -> x.owes(0, 1));
        Check.due("20 itself", 0, () -> x.owes(0, 0));
        for (int inn : NO_INNS) {
            Check.refuses("20 inn " + inn, Check.INDEX, () -> x.owes(inn, 0));
            Check.refuses("20 other " + inn, Check.INDEX, () -> x.owes(0, inn));
        }
    }

    private static void promise21Purse() {
        HostLeague x = Scenes.withRooms(1, 10);
        x.setRooms(3, 0, 1, 100);
        x.buyLinen(0, 9);
        x.buyLinen(3, 9);
        x.book(0, 0, 0, 0);
        x.setRooms(0, 0, 0, 10);
        x.setRooms(1, 0, 0, 10);
        x.come(0);
        Check.due("21 debts left aside", 10, () -> x.purse(0));
        Check.due("9 paid", 100, () -> x.settle());
        Check.due("21 below 0", -90, () -> x.purse(0));
        Check.due("21 the other", 100, () -> x.purse(3));
        Check.due("20 none is left", 0, () -> x.owes(0, 3));
        Check.due("20 none is made", 0, () -> x.owes(3, 0));
        Check.due("9 again", 0, () -> x.settle());
        Check.due("21 as before", -90, () -> x.purse(0));
        for (int inn : NO_INNS) {
            Check.refuses("21 inn " + inn, Check.INDEX, () -> x.purse(inn));
        }
    }
}
