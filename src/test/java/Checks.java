/** What the tests share: it counts and prints each answer that is not the one that is due. */
final class Checks {
    interface Call {
        void run();
    }

    private static int wrong;

    private Checks() {
    }

    static void due(String call, long got, long want) {
        if (got != want) {
            wrong++;
            System.out.println(call + " answered " + got + ", due is " + want);
        }
    }

    static void due(String call, boolean got, boolean want) {
        due(call, got ? 1 : 0, want ? 1 : 0);
    }

    static void due(String call, String got, String want) {
        if (!got.equals(want)) {
            wrong++;
            System.out.println(call + " answered " + got + ", due is " + want);
        }
    }

    /** The very class is due: what the machine throws is of a class below. */
    static void refused(String call, Class<? extends RuntimeException> want, Call run) {
        String got = "nothing";
        try {
            run.run();
        } catch (RuntimeException e) {
            got = e.getClass().getName();
        }
        due(call + " throws", got, want.getName());
    }

    static void noSuch(String call, Call run) {
        refused(call, IndexOutOfBoundsException.class, run);
    }

    static void outOfRange(String call, Call run) {
        refused(call, IllegalArgumentException.class, run);
    }

    static void notNow(String call, Call run) {
        refused(call, IllegalStateException.class, run);
    }

    static SkinLeague league(int players) {
        SkinLeague x = new SkinLeague();
        for (int i = 0; i < players; i++) {
            x.player();
        }
        return x;
    }

    /** Three players of whom 0 wins skin 0, 1 skin 1 and 2 skin 2, on day 0, and a season 1 that is on. */
    static SkinLeague leagueWithSkins() {
        SkinLeague x = league(3);
        x.match(0, 1, 0);
        x.match(0, 2, 0);
        x.match(1, 2, 0);
        x.end();
        return x;
    }

    static String label(SkinLeague x, int skin) {
        StringBuilder text = new StringBuilder();
        for (int i = 0; i < 40 && x.label(skin, i) != 0; i++) {
            text.append(x.label(skin, i));
        }
        return text.toString();
    }

    static void end(String test) {
        System.out.println(test + ": " + (wrong == 0 ? "all answers are as due" : wrong + " answers are not as due"));
        if (wrong != 0) {
            System.exit(1);
        }
    }
}
