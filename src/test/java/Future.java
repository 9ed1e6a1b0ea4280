/**
 * What comes of an object, as one text: a fixed run of calls that brings out what no question tells
 * (the prices, the rooms that are taken, the stages of the laundry, whose points are the earliest).
 */
final class Future {
    private static final int NIGHTS = 5;
    private static final int MOST_TRIES = 120;

    private final HostLeague x;
    private final StringBuilder text = new StringBuilder();

    private Future(HostLeague x) {
        this.x = x;
    }

    /** Changes the object; takes fewer than 300 of its calls. */
    static String of(HostLeague x) {
        Future future = new Future(x);
        future.add("broken", () -> x.setBroken(false) ? 1 : 0);
        future.bookAllOver();
        future.live();
        future.burnAllOver();
        future.add("settled", () -> x.settle());
        future.tellRooms();
        return future.text.toString();
    }

    private void add(String what, Check.Call call) {
        text.append('\n').append(what).append(' ').append(Check.outcome(call));
    }

    private void bookAllOver() {
        for (int row = 0; row < 8; row++) {
            int inn = row / 2;
            int kind = row % 2;
            int before = x.bookings();
            add("book " + row, () -> x.book(inn, inn, kind, x.today()));
            add("come " + row, () -> x.come(before));
            add("purse " + row, () -> x.purse(inn));
        }
    }

    private void live() {
        boolean[] came = new boolean[x.bookings()];
        int tries = 0;
        for (int n = 0; n < NIGHTS; n++) {
            for (int b = 0; b < came.length && tries < MOST_TRIES; b++) {
                int booking = b;
                if (!came[b]) {
                    tries++;
                    String outcome = Check.outcome(() -> x.come(booking));
                    came[b] = !outcome.equals("IllegalStateException");
                    text.append('\n').append(b).append(" comes ").append(outcome);
                }
            }
            for (int i = 0; i < 4; i++) {
                int inn = i;
                add("clean", () -> x.clean(inn));
                add("away", () -> x.away(inn));
            }
            add("night", () -> x.night());
        }
    }

    /** The first half of a guest's points at one inn, the rest at another one. */
    private void burnAllOver() {
        for (int g = 0; g < 10; g++) {
            int guest = g;
            int half = x.points(guest) / 2;
            add("burn half of " + guest, () -> x.burn(guest, (guest + 1) % 4, half));
            add("burn the rest of " + guest, () -> x.burn(guest, (guest + 2) % 4, x.points(guest)));
        }
        for (int p = 0; p < 16; p++) {
            int pair = p;
            add("owes " + pair, () -> x.owes(pair / 4, pair % 4));
        }
    }

    private void tellRooms() {
        for (int i = 0; i < 4; i++) {
            int inn = i;
            add("purse " + inn, () -> x.purse(inn));
            add("rooms of kind 0", () -> x.setRooms(inn, 0, 0, 1));
            add("rooms of kind 1", () -> x.setRooms(inn, 1, 0, 1));
        }
    }
}
