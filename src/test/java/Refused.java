/** Calls that must be refused with the right exception, and leave the object as if they had never been made. */
final class Refused {
    interface Recipe {
        HostLeague make();
    }

    interface Call {
        long on(HostLeague x);
    }

    interface CallWith {
        long on(HostLeague x, int value);
    }

    private Refused() {
    }

    /** Each object is made anew by the recipe, so that none comes near its 512th call. */
    static void due(String what, Class<? extends RuntimeException> want, Recipe recipe, Call call) {
        HostLeague told = recipe.make();
        Check.refuses(what, want, () -> call.on(told));
        Check.same(what + " changes nothing that is told", State.of(recipe.make()), State.of(told));
        HostLeague lived = recipe.make();
        Check.refuses(what + ", again", want, () -> call.on(lived));
        Check.same(what + " changes nothing of what comes later", Future.of(recipe.make()), Future.of(lived));
    }

    static void index(String what, Recipe recipe, Call call) {
        due(what, Check.INDEX, recipe, call);
    }

    static void argument(String what, Recipe recipe, Call call) {
        due(what, Check.ARGUMENT, recipe, call);
    }

    static void state(String what, Recipe recipe, Call call) {
        due(what, Check.STATE, recipe, call);
    }

    /** Refused with the numbers beyond the least and the most one, and not for that reason with these two. */
    static void beyond(String what, int least, int most, Class<? extends RuntimeException> want, Recipe recipe,
            CallWith call) {
        for (int value : new int[] {least - 1, most + 1, Integer.MIN_VALUE, Integer.MAX_VALUE}) {
            due(what + " " + value, want, recipe, x -> call.on(x, value));
        }
        for (int value : new int[] {least, most}) {
            HostLeague x = recipe.make();
            String outcome = Check.outcome(() -> call.on(x, value));
            Check.holds(what + " " + value + " is one", !outcome.equals(want.getSimpleName()));
        }
    }
}
