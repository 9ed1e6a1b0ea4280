/** All that the class tells of itself, as one text: for tests that a refused call changes nothing. */
final class State {
    private State() {
    }

    static String of(HostLeague x) {
        StringBuilder text = new StringBuilder();
        text.append("today ").append(x.today()).append(" bookings ").append(x.bookings());
        for (int inn = 0; inn < 4; inn++) {
            text.append("\ninn ").append(inn).append(" extra ").append(x.extra(inn));
            text.append(" clean ").append(x.clean(inn)).append(" away ").append(x.away(inn));
            text.append(" purse ").append(x.purse(inn)).append(" owes");
            for (int other = 0; other < 4; other++) {
                text.append(' ').append(x.owes(inn, other));
            }
            for (int kind = 0; kind < 2; kind++) {
                text.append(" kind ").append(x.free(inn, kind)).append(' ').append(x.taken(inn, kind));
                text.append(' ').append(x.takenByBookings(inn, kind));
            }
        }
        text.append("\npoints");
        for (int guest = 0; guest < 10; guest++) {
            text.append(' ').append(x.points(guest));
        }
        text.append("\nsleeps");
        int bookings = x.bookings();
        for (int booking = 0; booking < bookings; booking++) {
            text.append(' ').append(x.sleeps(booking));
        }
        return text.toString();
    }
}
