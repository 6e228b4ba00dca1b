import java.util.function.Consumer;
import java.util.function.ToIntFunction;

/** What the tests share: answers beside what is due, texts as numbers, and schools to begin with. */
abstract class Checks {
    static final int NO_SUCH = -1, BAD_VALUE = -2, BAD_TEXT = -3, TOO_MANY = -4, NOT_POSSIBLE = -5, NONE = -6;
    static final int NEEDS = 0, WEARS = 1, LIMIT = 2, FINE = 3, GRUDGE = 4;
    static final int MIN = Integer.MIN_VALUE, MAX = Integer.MAX_VALUE;

    static int wrong = 0;
    static String about = "";

    static void due(String call, long got, long want) {
        if (got != want) {
            wrong++;
            System.out.println(about + ": " + call + " answered " + got + ", due is " + want);
        }
    }

    static void check(boolean holds, String what) {
        if (!holds) {
            wrong++;
            System.out.println(about + ": " + what);
        }
    }

    /** The end of a main method. */
    static void finish(String good) {
        System.out.println(wrong == 0 ? good : wrong + " answers are not as due");
        if (wrong != 0) {
            System.exit(1);
        }
    }

    // ---- texts

    static long packed(String text) {
        long characters = 0;
        for (int i = 0; i < text.length(); i++) {
            characters = (characters << 8) | text.charAt(i);
        }
        return characters;
    }

    static void putText(ExcuseTariffs x, String text) {
        for (int i = 0; i < text.length(); i += 8) {
            x.put(packed(text.substring(i, Math.min(text.length(), i + 8))));
        }
    }

    // ---- schools

    /** A school with excuses of those worths, the first of kind 0, the next of kind 1 and so on round. */
    static ExcuseTariffs school(int... worths) {
        ExcuseTariffs x = new ExcuseTariffs();
        for (int e = 0; e < worths.length; e++) {
            x.add(e % 5, worths[e]);
        }
        return x;
    }

    /** Two excuses of different kinds that do not wear off and are heavy enough, and a grudge that costs nothing. */
    static ExcuseTariffs easySchool() {
        ExcuseTariffs x = new ExcuseTariffs();
        x.set(WEARS, 0);
        x.set(GRUDGE, 0);
        x.set(LIMIT, 9);
        x.add(0, 80);
        x.add(1, 80);
        return x;
    }

    /** Takes credits from a witness by stamps of excuse 0, offered by the pupils after it, one each. */
    static void standBy(ExcuseTariffs x, int witness, int times) {
        for (int i = 1; i <= times; i++) {
            due("a stamp with the witness", x.offer((witness + i) % 10, 0, witness, 1), 0);
        }
    }

    /** Makes the master of a pupil angrier by that many offers of excuse 0 that are refused for their kind. */
    static void anger(ExcuseTariffs x, int pupil, int times) {
        if (x.pupil(pupil, 4) != 0) {
            x.offer(pupil, 0, NONE, 1);
        }
        for (int i = 0; i < times; i++) {
            due("the same kind again", x.offer(pupil, 0, NONE, 1), 2);
        }
    }

    // ---- pictures

    /**
     * All that can be asked of a new object after some calls, but for the characters of its pad. This takes 281
     * calls, so each picture has an object of its own: nothing is promised after the 512th call.
     */
    static int[] pictureAfter(Consumer<ExcuseTariffs> calls) {
        ExcuseTariffs x = new ExcuseTariffs();
        calls.accept(x);
        int[] picture = new int[21 + 80 + 60 + 120];
        int next = 0;
        for (int what = 0; what < 20; what++) {
            picture[next++] = x.count(what);
        }
        picture[next++] = x.fault();
        for (int p = 0; p < 10; p++) {
            for (int what = 0; what < 8; what++) {
                picture[next++] = x.pupil(p, what);
            }
            for (int e = 0; e < 12; e++) {
                picture[next++] = x.novelty(p, e);
            }
        }
        for (int e = 0; e < 12; e++) {
            for (int what = 0; what < 5; what++) {
                picture[next++] = x.excuse(e, what);
            }
        }
        return picture;
    }

    static void same(String what, int[] got, int[] want) {
        for (int i = 0; i < want.length; i++) {
            due(what + ", place " + i, got[i], want[i]);
        }
    }

    /** As same(), but for the pad and the history, which undo() and restore() leave alone. */
    static void sameSchool(String what, int[] got, int[] want) {
        for (int i = 0; i < want.length; i++) {
            if (i < 18 || i > 20) {
                due(what + ", place " + i, got[i], want[i]);
            }
        }
    }

    /** After some calls this one has that answer, and state, pad, history and slots are as if it had not come. */
    static void changesNothing(String what, Consumer<ExcuseTariffs> before, ToIntFunction<ExcuseTariffs> call,
            int answer) {
        Consumer<ExcuseTariffs> with = before.andThen(x -> due(what, call.applyAsInt(x), answer));
        same(what, pictureAfter(with), pictureAfter(before));
        same(what + ", undo", pictureAfter(with.andThen(x -> x.undo())), pictureAfter(before.andThen(x -> x.undo())));
        for (int slot = 0; slot < 2; slot++) {
            int kept = slot;
            same(what + ", restore " + slot, pictureAfter(with.andThen(x -> x.restore(kept))),
                    pictureAfter(before.andThen(x -> x.restore(kept))));
        }
    }
}
