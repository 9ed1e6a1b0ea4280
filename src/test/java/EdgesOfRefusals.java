import java.io.IOException;
import java.io.UncheckedIOException;
import java.nio.file.Files;
import java.nio.file.Path;

/** Refused calls and the interface under "Terms": a test for each sentence, or part of one. */
final class EdgesOfRefusals {
    private static final String TERMS = "Terms";

    private EdgesOfRefusals() {
    }

    static void run(Sentences s) {
        s.test(TERMS, "A call that throws an exception changes nothing.", EdgesOfRefusals::refusedChangesNothing);
        s.test(TERMS, "the one that is named first in the throws clause", EdgesOfRefusals::firstNamedIsThrown);
        s.test(TERMS, "A method that takes an inn", EdgesOfRefusals::noSuchInn);
        s.test(TERMS, "A method that takes an inn, a kind", EdgesOfRefusals::noSuchKind);
        s.test(TERMS, "a guest or a booking throws IndexOutOfBoundsException", EdgesOfRefusals::noSuchGuest);
        s.test(TERMS, "or a booking throws IndexOutOfBoundsException", EdgesOfRefusals::noSuchBooking);
        s.test(TERMS, "---- inns and linen", EdgesOfRefusals::saysInnsAndLinen);
        s.test(TERMS, "---- bookings and guests", EdgesOfRefusals::saysBookingsAndGuests);
        s.test(TERMS, "---- what there is", EdgesOfRefusals::saysWhatThereIs);
        s.test(TERMS, "nothing from here on changes anything", EdgesOfRefusals::questionsChangeNothing);
    }

    // ---- refused calls

    private static void refusedChangesNothing() {
        Refused.index("setRooms, no inn", Scenes::busy, x -> x.setRooms(4, 0, 5, 50));
        Refused.index("setRooms, no kind", Scenes::busy, x -> x.setRooms(0, 2, 5, 50));
        Refused.argument("setRooms, rooms", Scenes::busy, x -> x.setRooms(0, 0, 11, 50));
        Refused.argument("setRooms, price", Scenes::busy, x -> x.setRooms(0, 0, 5, 101));
        Refused.index("buyLinen, no inn", Scenes::busy, x -> x.buyLinen(-1, 5));
        Refused.argument("buyLinen, sets", Scenes::busy, x -> x.buyLinen(0, 21));
        Refused.index("book, no guest", Scenes::busy, x -> x.book(10, 2, 0, 2));
        Refused.index("book, no inn", Scenes::busy, x -> x.book(0, 4, 0, 2));
        Refused.index("book, no kind", Scenes::busy, x -> x.book(0, 2, 2, 2));
        Refused.argument("book, night", Scenes::busy, x -> x.book(0, 2, 0, 1));
        Refused.state("book, no more rooms", Scenes::busy, x -> x.book(0, 0, 0, 2));
        Refused.state("book, 80 were made", Scenes::fullOfBookings, x -> x.book(0, 0, 0, 1));
        Refused.index("come, no booking", Scenes::busy, x -> x.come(19));
        Refused.state("come, a night that is over", Scenes::busy, x -> x.come(5));
        Refused.state("come, a later night", Scenes::busy, x -> x.come(16));
        Refused.state("come, has come", Scenes::busy, x -> x.come(13));
        Refused.index("burn, no guest", Scenes::busy, x -> x.burn(10, 0, 1));
        Refused.index("burn, no inn", Scenes::busy, x -> x.burn(1, 4, 1));
        Refused.argument("burn, points", Scenes::busy, x -> x.burn(1, 0, 0));
        Refused.state("burn, not so many", Scenes::busy, x -> x.burn(1, 0, 6));
        Refused.state("night 300", Scenes::lastNight, x -> x.night());
    }

    private static void firstNamedIsThrown() {
        Refused.index("setRooms, inn and rooms", Scenes::busy, x -> x.setRooms(4, 0, 11, 50));
        Refused.index("setRooms, kind and price", Scenes::busy, x -> x.setRooms(0, 2, 5, 0));
        Refused.index("setRooms, all", Scenes::busy, x -> x.setRooms(-1, -1, -1, 0));
        Refused.index("buyLinen, inn and sets", Scenes::busy, x -> x.buyLinen(4, 0));
        Refused.index("book, guest and night", Scenes::busy, x -> x.book(10, 0, 0, 1));
        Refused.index("book, inn and night", Scenes::busy, x -> x.book(0, 4, 0, 13));
        Refused.index("book, kind and night", Scenes::busy, x -> x.book(0, 0, 2, 1));
        Refused.index("book, guest and no more rooms", Scenes::busy, x -> x.book(10, 0, 0, 2));
        Refused.index("book, guest and 80 made", Scenes::fullOfBookings, x -> x.book(-1, 0, 0, 1));
        Refused.index("book, inn and 80 made", Scenes::fullOfBookings, x -> x.book(0, -1, 0, 1));
        Refused.index("book, kind and 80 made", Scenes::fullOfBookings, x -> x.book(0, 0, -1, 1));
        Refused.index("book, all", Scenes::fullOfBookings, x -> x.book(10, 4, 2, 11));
        Refused.argument("book, night and no rooms", HostLeague::new, x -> x.book(0, 0, 0, 11));
        Refused.argument("book, night and 80 made", Scenes::fullOfBookings, x -> x.book(0, 0, 0, -1));
        Refused.index("burn, guest and points", Scenes::busy, x -> x.burn(10, 0, 0));
        Refused.index("burn, inn and points", Scenes::busy, x -> x.burn(1, 4, 101));
        Refused.index("burn, inn and not so many", Scenes::busy, x -> x.burn(1, 4, 6));
        Refused.index("burn, all", Scenes::busy, x -> x.burn(-1, -1, 101));
        Refused.argument("burn, points and not so many", Scenes::busy, x -> x.burn(1, 0, 101));
    }

    private static void noSuchInn() {
        Refused.beyond("setRooms, inn", 0, 3, Check.INDEX, HostLeague::new, (x, inn) -> x.setRooms(inn, 0, 5, 50));
        Refused.beyond("buyLinen, inn", 0, 3, Check.INDEX, HostLeague::new, (x, inn) -> x.buyLinen(inn, 5));
        Refused.beyond("book, inn", 0, 3, Check.INDEX, HostLeague::new, (x, inn) -> x.book(0, inn, 0, 2));
        Refused.beyond("burn, inn", 0, 3, Check.INDEX, HostLeague::new, (x, inn) -> x.burn(1, inn, 1));
        Refused.beyond("free, inn", 0, 3, Check.INDEX, HostLeague::new, (x, inn) -> x.free(inn, 0));
        Refused.beyond("taken, inn", 0, 3, Check.INDEX, HostLeague::new, (x, inn) -> x.taken(inn, 0));
        Refused.beyond("takenByBookings, inn", 0, 3, Check.INDEX, HostLeague::new, (x, inn) -> x.takenByBookings(inn,
                0));
        Refused.beyond("extra, inn", 0, 3, Check.INDEX, HostLeague::new, (x, inn) -> x.extra(inn));
        Refused.beyond("clean, inn", 0, 3, Check.INDEX, HostLeague::new, (x, inn) -> x.clean(inn));
        Refused.beyond("away, inn", 0, 3, Check.INDEX, HostLeague::new, (x, inn) -> x.away(inn));
        Refused.beyond("owes, inn", 0, 3, Check.INDEX, HostLeague::new, (x, inn) -> x.owes(inn, 0));
        Refused.beyond("owes, other", 0, 3, Check.INDEX, HostLeague::new, (x, inn) -> x.owes(0, inn));
        Refused.beyond("owes, both", 0, 3, Check.INDEX, HostLeague::new, (x, inn) -> x.owes(inn, inn));
        Refused.beyond("purse, inn", 0, 3, Check.INDEX, HostLeague::new, (x, inn) -> x.purse(inn));
    }

    private static void noSuchKind() {
        Refused.beyond("setRooms, kind", 0, 1, Check.INDEX, HostLeague::new, (x, kind) -> x.setRooms(3, kind, 5, 50));
        Refused.beyond("book, kind", 0, 1, Check.INDEX, HostLeague::new, (x, kind) -> x.book(0, 3, kind, 3));
        Refused.beyond("free, kind", 0, 1, Check.INDEX, HostLeague::new, (x, kind) -> x.free(3, kind));
        Refused.beyond("taken, kind", 0, 1, Check.INDEX, HostLeague::new, (x, kind) -> x.taken(3, kind));
        Refused.beyond("takenByBookings, kind", 0, 1, Check.INDEX, HostLeague::new, (x, kind) -> x.takenByBookings(3,
                kind));
    }

    private static void noSuchGuest() {
        Refused.beyond("book, guest", 0, 9, Check.INDEX, HostLeague::new, (x, guest) -> x.book(guest, 2, 0, 2));
        Refused.beyond("burn, guest", 0, 9, Check.INDEX, HostLeague::new, (x, guest) -> x.burn(guest, 0, 1));
        Refused.beyond("points, guest", 0, 9, Check.INDEX, HostLeague::new, (x, guest) -> x.points(guest));
    }

    private static void noSuchBooking() {
        Refused.beyond("come, booking", 0, 18, Check.INDEX, Scenes::busy, (x, booking) -> x.come(booking));
        Refused.beyond("sleeps, booking", 0, 18, Check.INDEX, Scenes::busy, (x, booking) -> x.sleeps(booking));
        Refused.index("come, with none made", HostLeague::new, x -> x.come(0));
        Refused.index("sleeps, with none made", HostLeague::new, x -> x.sleeps(0));
        Refused.index("come, with 80 made", Scenes::fullOfBookings, x -> x.come(80));
        Refused.index("sleeps, with 80 made", Scenes::fullOfBookings, x -> x.sleeps(80));
    }

    // ---- the interface

    private static void saysInnsAndLinen() {
        says("inns and linen", "setRooms", "buyLinen", "setBroken");
    }

    private static void saysBookingsAndGuests() {
        says("bookings and guests", "book", "come", "burn", "night", "settle");
    }

    private static void saysWhatThereIs() {
        says("what there is; nothing from here on changes anything", "today", "bookings", "free", "taken",
                "takenByBookings", "extra", "clean", "away", "sleeps", "points", "owes", "purse");
    }

    /** Behind the words these calls stand in this order, and no others ahead of the next such words. */
    private static void says(String words, String... calls) {
        String title = "// ---- " + words + "\n";
        String program = program();
        int start = program.indexOf(title);
        Check.holds("the words are there", start >= 0);
        String behind = program.substring(Math.max(0, start) + title.length()).split("// ---- ")[0];
        int from = 0;
        for (String call : calls) {
            int at = Math.max(behind.indexOf("public int " + call + "("),
                    behind.indexOf("public boolean " + call + "("));
            Check.holds(call + " in its place", at > from);
            from = at;
        }
        Check.due("calls in all", calls.length, () -> behind.split("\n    public ").length - 1);
    }

    private static String program() {
        try {
            return Files.readString(Path.of("src", "main", "java", "HostLeague.java"));
        } catch (IOException e) {
            throw new UncheckedIOException(e);
        }
    }

    private static void questionsChangeNothing() {
        HostLeague x = Scenes.busy();
        String told = State.of(x);
        Check.same("told twice", told, State.of(x));
        Check.same("what comes later", Future.of(Scenes.busy()), Future.of(x));
    }
}
