/**
 * The boundary cases of linen, points and debts under "Terms": a test for each sentence, or for each
 * part of one that names a case of its own.
 */
final class EdgesOfLinenAndDebts {
    private static final String TERMS = "Terms";

    private EdgesOfLinenAndDebts() {
    }

    static void run(Sentences s) {
        s.test(TERMS, "takes a set of clean linen of the inn where it sleeps", EdgesOfLinenAndDebts::takesOneSet);
        s.test(TERMS, "If that has none, it borrows one", EdgesOfLinenAndDebts::borrowsOnlyWithNone);
        s.test(TERMS, "from the inn with the most clean linen", EdgesOfLinenAndDebts::borrowsFromTheMost);
        s.test(TERMS, "of several the one with the lowest number", EdgesOfLinenAndDebts::borrowsFromTheLowest);
        s.test(TERMS, "owes it 1 coin and 1 more for each set", EdgesOfLinenAndDebts::oneCoinAndOneMore);
        s.test(TERMS, "in this night already", EdgesOfLinenAndDebts::borrowedInThisNight);
        s.test(TERMS, "a borrowed set is the borrower's then", EdgesOfLinenAndDebts::borrowedIsTheBorrowers);
        s.test(TERMS, "it comes back clean when the second night behind that is over",
                EdgesOfLinenAndDebts::secondNightBehind);
        s.test(TERMS, "when the first night is over in which it is not", EdgesOfLinenAndDebts::firstNightNotBroken);
        s.test(TERMS, "if the laundry is broken then", EdgesOfLinenAndDebts::brokenOnlyThenMatters);
        s.test(TERMS, "a tenth of the price of the kind there, rounded down", EdgesOfLinenAndDebts::tenthRoundedDown);
        s.test(TERMS, "A guest can burn points at an inn, its earliest ones first",
                EdgesOfLinenAndDebts::earliestFirst);
        s.test(TERMS, "for each point that was earned at another inn", EdgesOfLinenAndDebts::pointsOfAnotherInn);
        s.test(TERMS, "what is left of all that they owe one another", EdgesOfLinenAndDebts::whatIsLeft);
        s.test(TERMS, "what the inns have, which may be below 0", EdgesOfLinenAndDebts::purseBelowZero);
    }

    // ---- linen

    private static void takesOneSet() {
        HostLeague x = Scenes.withRoomsAndLinen(2, 10, 1);
        x.book(0, 0, 0, 0);
        x.book(1, 2, 1, 0);
        x.come(0);
        linen(x, 0, 0, 1);
        x.setRooms(2, 1, 0, 10);
        Check.due("sent on", 1, () -> x.come(1));
        linen(x, 1, 0, 1);
        linen(x, 2, 1, 0);
        linen(x, 3, 1, 0);
    }

    private static void linen(HostLeague x, int inn, int clean, int away) {
        Check.due("clean at " + inn, clean, () -> x.clean(inn));
        Check.due("away of " + inn, away, () -> x.away(inn));
    }

    private static void borrowsOnlyWithNone() {
        HostLeague x = Scenes.withRooms(3, 10);
        x.buyLinen(0, 1);
        x.buyLinen(1, 20);
        Scenes.comeNow(x, 0, 0);
        Check.due("its own set, if it is the last", 20, () -> x.clean(1));
        Check.due("no debt for it", 0, () -> x.owes(0, 1));
        Scenes.comeNow(x, 0, 0);
        Check.due("a borrowed one, if it has none", 19, () -> x.clean(1));
        Check.due("a debt for it", 1, () -> x.owes(0, 1));
    }

    private static void borrowsFromTheMost() {
        for (int giver = 1; giver < 4; giver++) {
            HostLeague x = Scenes.withRooms(3, 10);
            for (int inn = 1; inn < 4; inn++) {
                x.buyLinen(inn, inn == giver ? 3 : 2);
            }
            Scenes.comeNow(x, 0, 0);
            for (int i = 1; i < 4; i++) {
                int inn = i;
                Check.due("sets of " + inn, 2, () -> x.clean(inn));
                Check.due("owed to " + inn, inn == giver ? 1 : 0, () -> x.owes(0, inn));
            }
        }
    }

    private static void borrowsFromTheLowest() {
        int[][] givers = {{1, 2, 3}, {0, 2, 3}, {0, 1, 3}, {0, 1, 2}};
        for (int h = 0; h < 4; h++) {
            int home = h;
            HostLeague x = Scenes.withRooms(3, 10);
            for (int inn : givers[home]) {
                x.buyLinen(inn, 1);
            }
            for (int n = 0; n < 3; n++) {
                int giver = givers[home][n];
                Scenes.comeNow(x, 0, home);
                Check.due("lent by " + giver + " to " + home, 0, () -> x.clean(giver));
                Check.due("coins to " + giver + " of " + home, n + 1, () -> x.owes(home, giver));
            }
        }
    }

    private static void oneCoinAndOneMore() {
        HostLeague x = Scenes.withRooms(10, 10);
        x.buyLinen(3, 20);
        int[] homes = {0, 1, 0, 2, 1};
        int[] owed = new int[3];
        for (int n = 0; n < homes.length; n++) {
            Scenes.comeNow(x, 0, homes[n]);
            owed[homes[n]] += 1 + n;
            for (int i = 0; i < 3; i++) {
                int inn = i;
                Check.due("owed by " + inn + " with borrowed sets: " + (n + 1), owed[inn], () -> x.owes(inn, 3));
            }
        }
        Scenes.comeNow(x, 0, 3);
        Scenes.comeNow(x, 0, 0);
        Check.due("its own set is not a borrowed one", owed[0] + 6, () -> x.owes(0, 3));
    }

    private static void borrowedInThisNight() {
        HostLeague x = Scenes.withRooms(10, 10);
        x.buyLinen(3, 20);
        Scenes.comeNow(x, 0, 0);
        Scenes.comeNow(x, 0, 0);
        Check.due("1 and 2", 3, () -> x.owes(0, 3));
        x.night();
        Scenes.comeNow(x, 0, 1);
        Check.due("1 in another night", 1, () -> x.owes(1, 3));
    }

    private static void borrowedIsTheBorrowers() {
        HostLeague x = Scenes.withRooms(2, 10);
        x.buyLinen(2, 1);
        Scenes.comeNow(x, 0, 0);
        linen(x, 0, 0, 1);
        linen(x, 2, 0, 0);
        x.night();
        linen(x, 0, 0, 1);
        linen(x, 2, 0, 0);
        Scenes.nights(x, 2);
        linen(x, 0, 1, 0);
        linen(x, 2, 0, 0);
    }

    private static void secondNightBehind() {
        HostLeague x = Scenes.withRooms(2, 10);
        x.buyLinen(0, 2);
        x.night();
        Scenes.comeNow(x, 0, 0);
        linen(x, 0, 1, 1);
        x.night();
        linen(x, 0, 1, 1);
        Scenes.comeNow(x, 0, 0);
        x.night();
        linen(x, 0, 0, 2);
        x.night();
        linen(x, 0, 1, 1);
        x.night();
        linen(x, 0, 2, 0);
        x.night();
        linen(x, 0, 2, 0);
    }

    private static void firstNightNotBroken() {
        for (int nightsBroken = 0; nightsBroken < 4; nightsBroken++) {
            HostLeague x = Scenes.withRooms(2, 10);
            x.buyLinen(0, 1);
            Scenes.comeNow(x, 0, 0);
            Scenes.nights(x, 2);
            x.setBroken(true);
            for (int n = 0; n < nightsBroken; n++) {
                x.night();
                linen(x, 0, 0, 1);
            }
            x.setBroken(false);
            linen(x, 0, 0, 1);
            x.night();
            linen(x, 0, 1, 0);
        }
    }

    private static void brokenOnlyThenMatters() {
        HostLeague x = Scenes.withRooms(2, 10);
        x.buyLinen(0, 1);
        x.setBroken(true);
        Scenes.comeNow(x, 0, 0);
        Scenes.nights(x, 2);
        x.setBroken(false);
        x.night();
        linen(x, 0, 1, 0);

        HostLeague y = Scenes.withRooms(2, 10);
        y.buyLinen(0, 1);
        Scenes.comeNow(y, 0, 0);
        Scenes.nights(y, 2);
        y.setBroken(true);
        y.setBroken(false);
        y.setBroken(true);
        y.night();
        linen(y, 0, 0, 1);
    }

    // ---- points and debts

    private static void tenthRoundedDown() {
        int[][] pointsAt = {{1, 0}, {9, 0}, {10, 1}, {19, 1}, {20, 2}, {99, 9}, {100, 10}};
        for (int[] row : pointsAt) {
            HostLeague x = Scenes.withRoomsAndLinen(1, 55, 5);
            x.book(0, 1, 0, 0);
            x.book(1, 3, 0, 0);
            x.setRooms(1, 0, 1, row[0]);
            x.setRooms(3, 0, 0, 55);
            x.setRooms(0, 0, 1, row[0]);
            x.come(0);
            Check.due("points for " + row[0], row[1], () -> x.points(0));
            Check.due("sent on", 0, () -> x.come(1));
            Check.due("points where it sleeps, for " + row[0], row[1], () -> x.points(1));
        }
    }

    /** Guest 6 earns 2 points at each inn, in the order 3, 1, 0, 2; another guest earns in between. */
    private static HostLeague withPointsOfAll() {
        HostLeague x = Scenes.withRoomsAndLinen(3, 25, 5);
        for (int inn : new int[] {3, 1, 0, 2}) {
            Scenes.comeNow(x, 6, inn);
            Scenes.comeNow(x, 5, inn);
            x.night();
        }
        return x;
    }

    private static void earliestFirst() {
        int[] order = {3, 3, 1, 1, 0, 0, 2, 2};
        for (int count = 1; count <= 8; count++) {
            HostLeague x = withPointsOfAll();
            int points = count;
            int[] owed = new int[4];
            for (int n = 0; n < count; n++) {
                owed[order[n]]++;
            }
            Check.due("left behind " + points, 8 - points, () -> x.burn(6, 0, points));
            for (int i = 1; i < 4; i++) {
                int inn = i;
                Check.due("owed by " + inn + " for " + points, owed[inn], () -> x.owes(inn, 0));
            }
            Check.due("the other guest's points", 8, () -> x.points(5));
        }
        HostLeague y = withPointsOfAll();
        Check.refuses("one too many", Check.STATE, () -> y.burn(6, 0, 9));
    }

    private static void pointsOfAnotherInn() {
        HostLeague x = withPointsOfAll();
        x.burn(6, 3, 2);
        Check.due("nothing for those of the inn itself", 0, () -> x.settle());
        x.burn(6, 3, 1);
        Check.due("1 coin for the first of another inn", 1, () -> x.owes(1, 3));
        x.burn(6, 1, 1);
        Check.due("nothing for the rest at its own inn", 1, () -> x.settle());
        Check.due("inn 3 has the coin", 26 + 25, () -> x.purse(3));
        Check.due("inn 1 has paid it", 24 + 25, () -> x.purse(1));

        HostLeague y = Scenes.withRoomsAndLinen(1, 10, 5);
        y.book(0, 0, 0, 0);
        y.setRooms(0, 0, 0, 10);
        Check.due("sent on", 1, () -> y.come(0));
        y.settle();
        y.burn(0, 3, 1);
        Check.due("it was earned where the guest slept", 1, () -> y.owes(1, 3));
        Check.due("not where it was booked", 0, () -> y.owes(0, 3));
    }

    private static void whatIsLeft() {
        HostLeague x = withPointsOfAll();
        x.burn(6, 0, 4);
        Check.due("inn 1 owes inn 0", 2, () -> x.owes(1, 0));
        x.burn(6, 1, 1);
        Check.due("one less", 1, () -> x.owes(1, 0));
        x.burn(6, 1, 1);
        Check.due("nothing is left", 0, () -> x.owes(1, 0));
        Check.due("nothing the other way", 0, () -> x.owes(0, 1));
        x.burn(5, 1, 5);
        Check.due("turned round", 1, () -> x.owes(0, 1));
        Check.due("turned round, not the other way", 0, () -> x.owes(1, 0));
        Check.due("inn 3 owes inn 0 and inn 1 besides", 2 + 2 + 1, () -> x.settle());
        Check.due("all is paid", 0, () -> x.settle());
    }

    private static void purseBelowZero() {
        HostLeague x = Scenes.withRoomsAndLinen(1, 1, 5);
        x.setRooms(2, 0, 1, 3);
        x.book(0, 1, 0, 0);
        x.setRooms(1, 0, 0, 1);
        x.setRooms(0, 0, 0, 1);
        Check.due("sent on", 2, () -> x.come(0));
        Check.due("before", 1, () -> x.purse(1));
        Check.due("paid", 3, () -> x.settle());
        Check.due("below 0", -2, () -> x.purse(1));
        Check.due("the other one", 3, () -> x.purse(2));
        x.book(0, 2, 0, 1);
        x.setRooms(1, 0, 2, 2);
        x.book(0, 1, 0, 0);
        x.come(2);
        Check.due("at 0 again", 0, () -> x.purse(1));
    }
}
