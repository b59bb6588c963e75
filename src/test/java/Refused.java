import java.lang.reflect.InvocationTargetException;
import java.util.Arrays;

/**
 * Tells a call that is to be refused: the very class of the exception is due, and that nothing changes.
 * For the latter two leagues are made alike, one of them is told the call, and both are to answer alike
 * behind it, to calls that ask and to calls that change what can't be asked (days, rooms, bans, proofs).
 */
final class Refused {
    interface Made {
        SkinLeague league();
    }

    private Refused() {
    }

    static void noSuch(String name, int... args) {
        noSuch(Refused::busyLeague, name, args);
    }

    static void outOfRange(String name, int... args) {
        outOfRange(Refused::busyLeague, name, args);
    }

    static void notNow(String name, int... args) {
        notNow(Refused::busyLeague, name, args);
    }

    static void noSuch(Made made, String name, int... args) {
        changesNothing(made, "throws.IndexOutOfBoundsException", name, args);
    }

    static void outOfRange(Made made, String name, int... args) {
        changesNothing(made, "throws.IllegalArgumentException", name, args);
    }

    static void notNow(Made made, String name, int... args) {
        changesNothing(made, "throws.IllegalStateException", name, args);
    }

    /**
     * Day 2, season 2, and of everything some: players 0 to 4, matches 0 to 7; skin 0 is good and lent, skin 1
     * was sold twice and is not good, skin 2 is lent, nobody holds skins 3 and 4; 4 is banned for today and
     * tomorrow, 3 is proven to have cheated since day 1; region 1 has 2 matches of 3, region 2 has no room.
     */
    static SkinLeague busyLeague() {
        SkinLeague x = Checks.league(5);
        x.match(0, 1, 0);
        x.match(0, 2, 0);
        x.match(1, 2, 0);
        x.end();
        x.pass(1);
        x.match(3, 4, 1);
        x.match(3, 4, 1);
        x.end();
        x.pass(1);
        x.proof(3, 1);
        x.sell(0, 4, 50);
        x.sell(1, 3, 20);
        x.sell(1, 0, 30);
        x.lend(0, 0, 2);
        x.lend(2, 1, 3);
        x.ban(4, 2);
        x.room(1, 3);
        x.match(1, 2, 1);
        x.match(2, 0, 1);
        x.room(2, 0);
        x.match(0, 1, 3);
        return x;
    }

    private static void changesNothing(Made made, String want, String name, int... args) {
        SkinLeague told = made.league();
        String call = name + Arrays.toString(args);
        Checks.due(call, answer(told, name, args), want);
        String[] got = answersBehind(told).split("; ");
        String[] due = answersBehind(made.league()).split("; ");
        Checks.due("calls behind " + call, got.length, due.length);
        int first = Arrays.mismatch(got, due);
        if (first >= 0 && first < got.length && first < due.length) {
            Checks.due("behind " + call, got[first], due[first]);
        }
    }

    private static String answersBehind(SkinLeague x) {
        StringBuilder answers = new StringBuilder();
        askAll(x, answers);
        for (int player = 0; player < 5; player++) {
            for (int region = 0; region < 4; region++) {
                tell(answers, x, "match", player, (player + 1) % 5, region);
            }
        }
        for (int region = 0; region < 4; region++) {
            tell(answers, x, "room", region, 10);
        }
        tell(answers, x, "end");
        for (int day = 0; day < 4; day++) {
            tell(answers, x, "pass", 1);
            for (int skin = 0; skin < 8; skin++) {
                tell(answers, x, "skinOf", skin, 2);
            }
            tell(answers, x, "match", 3, 4, 0);
        }
        for (int skin = 0; skin < 8; skin++) {
            tell(answers, x, "sell", skin, 0, 7);
            tell(answers, x, "sell", skin, 2, 9);
        }
        for (int player = 0; player < 5; player++) {
            tell(answers, x, "clear", player);
            tell(answers, x, "money", player);
        }
        for (int skin = 0; skin < 8; skin++) {
            tell(answers, x, "skinOf", skin, 0);
            tell(answers, x, "skinOf", skin, 5);
        }
        tell(answers, x, "player");
        return answers.toString();
    }

    private static void askAll(SkinLeague x, StringBuilder answers) {
        for (int i = 0; tell(answers, x, "money", i); i++) {
            for (int season = 0; tell(answers, x, "ranked", season, i, 0); season++) {
                tell(answers, x, "ranked", season, i, 1);
                tell(answers, x, "ranked", season, i, 2);
            }
        }
        for (int i = 0; tell(answers, x, "stands", i); i++) {
            continue;
        }
        for (int i = 0; tell(answers, x, "label", i, 6); i++) {
            for (int what = 0; what < 7; what++) {
                tell(answers, x, "skinOf", i, what);
            }
        }
    }

    /** Answers whether the call was not refused. */
    private static boolean tell(StringBuilder answers, SkinLeague x, String name, int... args) {
        String answer = answer(x, name, args);
        answers.append(name).append(Arrays.toString(args)).append(' ').append(answer).append("; ");
        return !answer.startsWith("throws.");
    }

    static String answer(SkinLeague x, String name, int... args) {
        Class<?>[] types = new Class<?>[args.length];
        Arrays.fill(types, int.class);
        try {
            return "" + SkinLeague.class.getMethod(name, types).invoke(x, Arrays.stream(args).boxed().toArray());
        } catch (InvocationTargetException e) {
            return "throws." + e.getCause().getClass().getSimpleName();
        } catch (ReflectiveOperationException e) {
            return "there is no such call: " + e;
        }
    }
}
