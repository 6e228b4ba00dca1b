import java.util.function.Consumer;

/** Tests of each promise of the document, with answers worked out by hand from its words. */
public final class PromiseTests extends Checks {
    public static void main(String[] args) {
        newObject();
        newObjectsShareNothing();
        constants();
        set();
        settingsCount();
        add();
        worth();
        offerErrors();
        offerStamped();
        offerUsedUp();
        offerSameKind();
        offerWitnessWithoutCredit();
        offerTooLight();
        offerReasonsInOrder();
        offerLimits();
        pay();
        endTerm();
        endTermHalvesAndCaps();
        read();
        readRefusals();
        readMinutes();
        excuse();
        pupil();
        novelty();
        why();
        weight();
        weightWithWitness();
        count();
        countWornOut();
        bestExcuse();
        bestExcusePassesOverRefused();
        bestWitness();
        mostMinutes();
        put();
        putErrors();
        wipe();
        faultAtEachPlace();
        faultTooEarly();
        faultOfWitness();
        undo();
        undoOfEachChange();
        undoHistory();
        errorsRecordNothing();
        save();
        restore();
        restoreBringsEverythingBack();
        restoreBringsTheListBack();
        finish("all promises hold");
    }

    // ---- promise 1

    private static void newObject() {
        about = "promise 1";
        ExcuseTariffs x = new ExcuseTariffs();
        int[] counts = {40, 25, 3, 5, 4, 0, 0, 0, 0, 0, 0, 0, 0, 0, 0, 50, 0, 0, 0, 0};
        for (int what = 0; what < counts.length; what++) {
            due("count " + what, x.count(what), counts[what]);
        }
        int[] facts = {5, 0, 0, 0, NONE, 0, 0, 0};
        for (int p = 0; p < 10; p++) {
            for (int what = 0; what < facts.length; what++) {
                due("pupil " + p + " " + what, x.pupil(p, what), facts[what]);
            }
        }
        due("excuse", x.excuse(0, 0), NO_SUCH);
        due("fault", x.fault(), 0);
        due("wipe", x.wipe(), 0);
        due("undo", x.undo(), NOT_POSSIBLE);
        due("restore 0", x.restore(0), NOT_POSSIBLE);
        due("restore 1", x.restore(1), NOT_POSSIBLE);
    }

    private static void newObjectsShareNothing() {
        about = "promise 1";
        ExcuseTariffs x = new ExcuseTariffs();
        ExcuseTariffs y = new ExcuseTariffs();
        x.set(0, 77);
        x.add(0, 99);
        x.offer(0, 0, 2, 50);
        x.save(0);
        putText(x, "0am1");
        due("count 0", y.count(0), 40);
        due("count 5", y.count(5), 0);
        due("count 15", y.count(15), 50);
        due("count 16", y.count(16), 0);
        due("count 18", y.count(18), 0);
        due("count 19", y.count(19), 0);
        due("restore", y.restore(0), NOT_POSSIBLE);
        due("a third object", new ExcuseTariffs().count(0), 40);
    }

    private static void constants() {
        about = "constants";
        due("NO_SUCH", ExcuseTariffs.NO_SUCH, -1);
        due("BAD_VALUE", ExcuseTariffs.BAD_VALUE, -2);
        due("BAD_TEXT", ExcuseTariffs.BAD_TEXT, -3);
        due("TOO_MANY", ExcuseTariffs.TOO_MANY, -4);
        due("NOT_POSSIBLE", ExcuseTariffs.NOT_POSSIBLE, -5);
        due("NONE", ExcuseTariffs.NONE, -6);
        due("NEEDS", ExcuseTariffs.NEEDS, 0);
        due("WEARS", ExcuseTariffs.WEARS, 1);
        due("LIMIT", ExcuseTariffs.LIMIT, 2);
        due("FINE", ExcuseTariffs.FINE, 3);
        due("GRUDGE", ExcuseTariffs.GRUDGE, 4);
    }

    // ---- promise 2

    private static void set() {
        about = "promise 2";
        int[] first = {40, 25, 3, 5, 4};
        int[] least = {1, 0, 1, 1, 0};
        int[] most = {99, 50, 9, 60, 20};
        ExcuseTariffs x = new ExcuseTariffs();
        for (int s = 0; s < 5; s++) {
            due("below the least of " + s, x.set(s, least[s] - 1), BAD_VALUE);
            due("above the most of " + s, x.set(s, most[s] + 1), BAD_VALUE);
            due("far below", x.set(s, MIN), BAD_VALUE);
            due("far above", x.set(s, MAX), BAD_VALUE);
            due("unchanged", x.count(s), first[s]);
            due("least of " + s, x.set(s, least[s]), first[s]);
            due("most of " + s, x.set(s, most[s]), least[s]);
            due("the same again", x.set(s, most[s]), most[s]);
            due("count", x.count(s), most[s]);
        }
        due("setting -1", x.set(-1, 1), BAD_VALUE);
        due("setting 5", x.set(5, 1), BAD_VALUE);
        due("setting MIN", x.set(MIN, 1), BAD_VALUE);
        due("setting MAX", x.set(MAX, 1), BAD_VALUE);
    }

    /** Each setting does what the document says of it. */
    private static void settingsCount() {
        about = "promise 2";
        ExcuseTariffs x = new ExcuseTariffs();
        x.add(0, 50);
        x.set(ExcuseTariffs.NEEDS, 51);
        due("NEEDS 51", x.why(0, 0, NONE, 1), 4);
        x.set(ExcuseTariffs.NEEDS, 50);
        due("NEEDS 50", x.why(0, 0, NONE, 1), 0);
        x.offer(0, 0, NONE, 1);
        x.set(ExcuseTariffs.WEARS, 7);
        due("WEARS 7, same class", x.novelty(1, 0), 86);
        due("WEARS 7, other class", x.novelty(2, 0), 93);
        due("LIMIT 3", x.why(0, 0, NONE, 1), 2);
        x.set(ExcuseTariffs.LIMIT, 1);
        due("LIMIT 1", x.why(0, 0, NONE, 1), 1);
        x.set(ExcuseTariffs.FINE, 60);
        x.offer(0, 0, NONE, 99);
        due("FINE 60", x.pupil(0, 1), 5940);
        x.set(ExcuseTariffs.WEARS, 0);
        x.set(ExcuseTariffs.GRUDGE, 20);
        due("GRUDGE 20", x.weight(0, 0, NONE, 1), 1030);
        x.set(ExcuseTariffs.GRUDGE, 0);
        due("GRUDGE 0", x.weight(0, 0, NONE, 1), 1050);
    }

    // ---- promise 3

    private static void add() {
        about = "promise 3";
        ExcuseTariffs x = new ExcuseTariffs();
        due("kind -1", x.add(-1, 1), BAD_VALUE);
        due("kind 5", x.add(5, 1), BAD_VALUE);
        due("worth 0", x.add(0, 0), BAD_VALUE);
        due("worth 100", x.add(0, 100), BAD_VALUE);
        due("MIN", x.add(MIN, MIN), BAD_VALUE);
        due("MAX", x.add(MAX, MAX), BAD_VALUE);
        due("none yet", x.count(5), 0);
        for (int e = 0; e < 12; e++) {
            due("add", x.add(e % 5, 99 - e), e);
            due("how many", x.count(5), e + 1);
        }
        due("a thirteenth", x.add(0, 1), TOO_MANY);
        due("a bad thirteenth", x.add(5, 1), BAD_VALUE);
        due("still twelve", x.count(5), 12);
        for (int e = 0; e < 12; e++) {
            due("kind", x.excuse(e, 0), e % 5);
            due("worth", x.excuse(e, 1), 99 - e);
        }
        ExcuseTariffs y = new ExcuseTariffs();
        due("kind 4, worth 1", y.add(4, 1), 0);
        due("kind", y.excuse(0, 0), 4);
        due("worth", y.excuse(0, 1), 1);
    }

    // ---- promise 4

    private static void worth() {
        about = "promise 4";
        ExcuseTariffs x = new ExcuseTariffs();
        due("no list", x.worth(0, 5), NO_SUCH);
        due("no list and bad", x.worth(0, 0), NO_SUCH);
        x.add(3, 60);
        x.add(2, 70);
        due("first", x.worth(0, 1), 60);
        due("again", x.worth(0, 99), 1);
        due("read", x.excuse(0, 1), 99);
        due("other", x.excuse(1, 1), 70);
        due("kind stays", x.excuse(0, 0), 3);
        due("worth 0", x.worth(0, 0), BAD_VALUE);
        due("worth 100", x.worth(1, 100), BAD_VALUE);
        due("excuse 2", x.worth(2, 5), NO_SUCH);
        due("excuse -1", x.worth(-1, 5), NO_SUCH);
        due("excuse MIN", x.worth(MIN, 0), NO_SUCH);
        due("excuse MAX", x.worth(MAX, 5), NO_SUCH);
        due("unchanged", x.excuse(1, 1), 70);
        due("weight follows", x.weight(0, 0, NONE, 1), 1099);
    }

    // ---- promise 5

    private static void offerErrors() {
        about = "promise 5";
        ExcuseTariffs x = new ExcuseTariffs();
        due("no excuse", x.offer(0, 0, NONE, 1), NO_SUCH);
        x.add(0, 99);
        for (int call = 0; call < 3; call++) {
            due("pupil -1", ask(x, call, -1, 0, NONE, 1), NO_SUCH);
            due("pupil 10", ask(x, call, 10, 0, NONE, 1), NO_SUCH);
            due("pupil NONE", ask(x, call, NONE, 0, NONE, 1), NO_SUCH);
            due("pupil MIN", ask(x, call, MIN, 0, NONE, 1), NO_SUCH);
            due("excuse -1", ask(x, call, 0, -1, NONE, 1), NO_SUCH);
            due("excuse 1", ask(x, call, 0, 1, NONE, 1), NO_SUCH);
            due("excuse MAX", ask(x, call, 0, MAX, NONE, 1), NO_SUCH);
            due("witness -1", ask(x, call, 0, 0, -1, 1), NO_SUCH);
            due("witness -5", ask(x, call, 0, 0, -5, 1), NO_SUCH);
            due("witness -7", ask(x, call, 0, 0, -7, 1), NO_SUCH);
            due("witness 10", ask(x, call, 0, 0, 10, 1), NO_SUCH);
            due("witness MAX", ask(x, call, 0, 0, MAX, 1), NO_SUCH);
            due("minutes 0", ask(x, call, 0, 0, NONE, 0), BAD_VALUE);
            due("minutes 100", ask(x, call, 0, 0, NONE, 100), BAD_VALUE);
            due("minutes MIN", ask(x, call, 0, 0, NONE, MIN), BAD_VALUE);
            due("the pupil as witness", ask(x, call, 3, 0, 3, 1), BAD_VALUE);
            due("no such witness comes first", ask(x, call, 0, 0, 10, 0), NO_SUCH);
            due("no such pupil comes first", ask(x, call, 10, 0, 10, 0), NO_SUCH);
        }
        due("nothing happened", x.count(19), 1);
        due("no refusal", x.count(10), 0);
        due("minutes 1", x.offer(0, 0, NONE, 1), 0);
        due("minutes 99", x.offer(9, 0, NONE, 99), 0);
    }

    /** The three calls that take the arguments of an offer. */
    private static int ask(ExcuseTariffs x, int call, int pupil, int excuse, int witness, int minutes) {
        if (call == 0) {
            return x.offer(pupil, excuse, witness, minutes);
        }
        return call == 1 ? x.why(pupil, excuse, witness, minutes) : x.weight(pupil, excuse, witness, minutes);
    }

    private static void offerStamped() {
        about = "promise 5";
        ExcuseTariffs x = new ExcuseTariffs();
        x.add(2, 90);
        due("with a witness, 30 minutes", x.offer(4, 0, 7, 30), 0);
        due("use of the pupil", x.pupil(4, 5), 1);
        due("novelty in the class", x.novelty(5, 0), 50);
        due("novelty in the school", x.novelty(6, 0), 75);
        due("uses by the school", x.excuse(0, 2), 1);
        due("who", x.excuse(0, 4), 1 << 4);
        due("credit of the witness", x.pupil(7, 0), 4);
        due("credit of the pupil", x.pupil(4, 0), 5);
        due("grudge after 30 minutes", x.pupil(4, 6), 0);
        due("latest kind", x.pupil(4, 4), 2);
        due("fine", x.pupil(4, 1), 0);
        due("stamps", x.pupil(4, 2), 1);
        due("refused", x.pupil(4, 3), 0);
        due("31 minutes", x.offer(0, 0, NONE, 31), 0);
        due("grudge after 31 minutes", x.pupil(0, 6), 1);
        due("grudge of the same master", x.pupil(1, 6), 1);
        due("grudge of another master", x.pupil(2, 6), 0);
        due("all credits", x.count(15), 49);
    }

    private static void offerUsedUp() {
        about = "promise 5";
        ExcuseTariffs x = easySchool();
        x.set(ExcuseTariffs.LIMIT, 2);
        due("first use", x.offer(0, 0, NONE, 1), 0);
        due("other kind", x.offer(0, 1, NONE, 1), 0);
        due("second use", x.offer(0, 0, NONE, 1), 0);
        due("the limit before the kind", x.offer(0, 0, 5, 7), 1);
        due("fine", x.pupil(0, 1), 35);
        due("grudge", x.pupil(0, 6), 1);
        due("witness keeps the credit", x.pupil(5, 0), 5);
        due("no use more", x.excuse(0, 2), 2);
        due("another pupil of the class", x.offer(1, 0, NONE, 1), 0);
        due("refused for 1", x.count(7), 1);
        x.set(ExcuseTariffs.LIMIT, 1);
        due("more than the limit", x.why(0, 0, NONE, 1), 1);
    }

    private static void offerSameKind() {
        about = "promise 5";
        ExcuseTariffs x = easySchool();
        x.add(0, 50);
        due("first", x.offer(3, 0, NONE, 1), 0);
        due("another of the same kind", x.offer(3, 2, 8, 10), 2);
        due("witness keeps the credit", x.pupil(8, 0), 5);
        due("fine", x.pupil(3, 1), 50);
        due("grudge", x.pupil(3, 6), 1);
        due("of another pupil", x.offer(2, 2, NONE, 1), 0);
        due("other kind", x.offer(3, 1, NONE, 1), 0);
        due("first kind again", x.offer(3, 2, NONE, 1), 0);
        due("refused for 2", x.count(8), 1);
        // A refused offer is the latest, too.
        ExcuseTariffs y = new ExcuseTariffs();
        y.add(1, 1);
        y.add(1, 99);
        due("too light", y.offer(0, 0, NONE, 1), 4);
        due("kind of the refused one", y.offer(0, 1, NONE, 1), 2);
        due("latest kind", y.pupil(0, 4), 1);
    }

    private static void offerWitnessWithoutCredit() {
        about = "promise 5";
        ExcuseTariffs x = easySchool();
        for (int p = 0; p < 5; p++) {
            due("stands by " + p, x.offer(p, 0, 9, 1), 0);
        }
        due("no credit left", x.pupil(9, 0), 0);
        due("refused", x.offer(5, 0, 9, 8), 3);
        due("credit stays", x.pupil(9, 0), 0);
        due("fine", x.pupil(5, 1), 40);
        due("grudge", x.pupil(5, 6), 1);
        due("latest kind", x.pupil(5, 4), 0);
        due("refused for 3", x.count(9), 1);
        due("without the witness", x.offer(6, 0, NONE, 1), 0);
    }

    private static void offerTooLight() {
        about = "promise 5";
        ExcuseTariffs x = new ExcuseTariffs();
        x.add(0, 30);
        x.add(1, 35);
        due("30 and 5 less 9", x.offer(0, 0, 4, 99), 4);
        due("credit falls by 2", x.pupil(4, 0), 3);
        due("fine", x.pupil(0, 1), 495);
        due("grudge", x.pupil(0, 6), 1);
        due("no use", x.excuse(0, 2), 0);
        due("again", x.offer(2, 0, 4, 1), 4);
        due("credit 1", x.pupil(4, 0), 1);
        due("once more", x.offer(6, 0, 4, 1), 4);
        due("not below 0", x.pupil(4, 0), 0);
        due("refused for 4", x.count(10), 3);
        due("just heavy enough", x.offer(8, 1, 5, 9), 0);
        due("one minute more is too light", x.why(6, 1, 7, 10), 4);
        due("no witness", x.offer(9, 0, NONE, 1), 4);
        due("all credits", x.count(15), 44);
    }

    private static void offerReasonsInOrder() {
        about = "promise 5";
        ExcuseTariffs x = new ExcuseTariffs();
        x.set(ExcuseTariffs.LIMIT, 1);
        x.add(0, 99);
        x.add(0, 1);
        x.add(1, 1);
        due("first", x.offer(0, 0, NONE, 1), 0);
        emptyCredit(x, 9);
        due("credit 0", x.pupil(9, 0), 0);
        due("1 before 2, 3 and 4", x.why(0, 0, 9, 99), 1);
        due("2 before 3 and 4", x.why(0, 1, 9, 99), 2);
        due("3 before 4", x.why(0, 2, 9, 99), 3);
        due("4", x.why(0, 2, NONE, 99), 4);
    }

    private static void emptyCredit(ExcuseTariffs x, int witness) {
        for (int p = 2; p < 5; p++) {
            x.offer(p, 2, witness, 1);
        }
    }

    private static void offerLimits() {
        about = "promise 5";
        ExcuseTariffs x = new ExcuseTariffs();
        x.add(0, 99);
        x.offer(0, 0, NONE, 1);
        for (int i = 1; i <= 12; i++) {
            due("same kind", x.offer(0, 0, NONE, 99), 2);
            due("grudge is 9 at most", x.pupil(1, 6), Math.min(9, i));
            due("fine", x.pupil(0, 1), 495 * i);
        }
        x.set(ExcuseTariffs.GRUDGE, 0);
        due("stamp after 31 minutes", x.offer(1, 0, NONE, 31), 0);
        due("grudge stays 9", x.pupil(1, 6), 9);
    }

    // ---- promise 6

    private static void pay() {
        about = "promise 6";
        ExcuseTariffs x = new ExcuseTariffs();
        x.add(0, 1);
        due("nothing owed", x.pay(0, 1), NOT_POSSIBLE);
        x.offer(0, 0, NONE, 20);
        due("pupil -1", x.pay(-1, 1), NO_SUCH);
        due("pupil 10", x.pay(10, 1), NO_SUCH);
        due("pupil MIN, pence 0", x.pay(MIN, 0), NO_SUCH);
        due("pence 0", x.pay(0, 0), BAD_VALUE);
        due("pence -1", x.pay(0, -1), BAD_VALUE);
        due("pence 10000", x.pay(0, 10000), BAD_VALUE);
        due("pence 9999", x.pay(0, 9999), NOT_POSSIBLE);
        due("pence MAX", x.pay(0, MAX), BAD_VALUE);
        due("one more than the fine", x.pay(0, 101), NOT_POSSIBLE);
        due("another pupil", x.pay(1, 1), NOT_POSSIBLE);
        due("some", x.pay(0, 30), 70);
        due("fine", x.pupil(0, 1), 70);
        due("paid", x.pupil(0, 7), 30);
        due("the rest", x.pay(0, 70), 0);
        due("paid in all", x.pupil(0, 7), 100);
        due("paid by another", x.pupil(1, 7), 0);
        due("no more", x.pay(0, 1), NOT_POSSIBLE);
        due("count 12", x.count(12), 100);
        x.set(ExcuseTariffs.FINE, 60);
        x.offer(2, 0, NONE, 99);
        x.offer(2, 0, NONE, 99);
        due("9999 of 11880", x.pay(2, 9999), 1881);
    }

    // ---- promise 7

    private static void endTerm() {
        about = "promise 7";
        ExcuseTariffs x = easySchool();
        due("empty term", x.endTerm(), 0);
        x.offer(0, 0, NONE, 40);
        x.offer(0, 1, NONE, 40);
        x.offer(1, 0, 2, 1);
        x.offer(1, 0, 2, 10);
        due("three stamps", x.endTerm(), 3);
        due("uses by the school", x.excuse(0, 2), 0);
        due("uses in all terms", x.excuse(0, 3), 2);
        due("users", x.excuse(0, 4), 0);
        due("uses by the pupil", x.pupil(0, 5), 0);
        due("latest kind", x.pupil(0, 4), NONE);
        due("same kind may come again", x.why(1, 0, NONE, 1), 0);
        due("stamps so far stay", x.count(6), 3);
        due("refusals stay", x.count(8), 1);
        due("the fine stays", x.pupil(1, 1), 50);
        due("terms", x.count(14), 2);
        due("worth stays", x.excuse(0, 1), 80);
        due("settings stay", x.count(2), 9);
        due("next term", x.endTerm(), 0);
        x.offer(5, 1, NONE, 1);
        due("only this term's stamps", x.endTerm(), 1);
        x.set(ExcuseTariffs.WEARS, 50);
        due("novelty", x.novelty(0, 0), 100);
    }

    private static void endTermHalvesAndCaps() {
        about = "promise 7";
        ExcuseTariffs x = new ExcuseTariffs();
        x.add(0, 1);
        for (int i = 0; i < 9; i++) {
            x.offer(0, 0, NONE, 1);
        }
        x.offer(2, 0, 9, 1);
        due("grudge 9", x.pupil(0, 6), 9);
        due("credit 3", x.pupil(9, 0), 3);
        int[] grudges = {4, 2, 1, 0, 0};
        int[] credits = {5, 7, 9, 9, 9};
        int[] others = {7, 9, 9, 9, 9};
        for (int t = 0; t < 5; t++) {
            x.endTerm();
            due("half the grudge", x.pupil(1, 6), grudges[t]);
            due("half of 1", x.pupil(3, 6), 0);
            due("credit of the witness", x.pupil(9, 0), credits[t]);
            due("credit of another", x.pupil(8, 0), others[t]);
        }
        due("all credits", x.count(15), 90);
        due("fines stay", x.pupil(0, 1), 45);
    }

    // ---- promise 8

    private static void read() {
        about = "promise 8";
        ExcuseTariffs x = easySchool();
        due("empty pad", x.read(), BAD_TEXT);
        putText(x, "0am5,1bm31w2,9lm99,2am1w0");
        due("one is passed over", x.read(), 3);
        due("pad is empty", x.count(18), 0);
        due("stamps", x.count(6), 3);
        due("nothing refused", x.pupil(9, 3), 0);
        due("no latest kind", x.pupil(9, 4), NONE);
        due("witness 2", x.pupil(2, 0), 4);
        due("witness 0", x.pupil(0, 0), 4);
        due("31 minutes", x.pupil(1, 6), 1);
        due("other masters", x.count(16), 1);
        due("latest kind of 1", x.pupil(1, 4), 1);
        due("one change", x.count(19), 6);
        due("again, empty", x.read(), BAD_TEXT);
        putText(x, "3am5,");
        due("fault at the end", x.read(), BAD_TEXT);
        due("pad is kept", x.count(18), 5);
        due("no offer was made", x.pupil(3, 2), 0);
        putText(x, "4am5w4");
        due("fault of the witness", x.read(), BAD_TEXT);
        due("no offer", x.count(6), 3);
        due("pad is kept", x.wipe(), 11);
        putText(x, "9lm99");
        due("only one that there is not", x.read(), 0);
        due("pad is empty", x.count(18), 0);
    }

    /** Each offer of the pad meets what those before it left behind. */
    private static void readRefusals() {
        about = "promise 8";
        ExcuseTariffs x = new ExcuseTariffs();
        x.add(0, 60);
        x.add(1, 40);
        putText(x, "0am9,0am2,0bm9w8,1bm9,2bm9,2am9,1am9");
        // 0 gets a stamp; 0 again: kind; b of 0: 40 less 4 and 5 more; b of 1: 20 less 4; b of 2: 30; a of 2: 45; a of 1: 30 less 8
        due("stamps", x.read(), 3);
        due("refused for 1", x.count(7), 0);
        due("refused for 2", x.count(8), 1);
        due("refused for 3", x.count(9), 0);
        due("refused for 4", x.count(10), 3);
        due("fine of 0", x.pupil(0, 1), 10);
        due("fine of 1", x.pupil(1, 1), 90);
        due("fine of 2", x.pupil(2, 1), 45);
        due("grudge", x.pupil(0, 6), 3);
        due("witness", x.pupil(8, 0), 4);
        due("uses", x.pupil(0, 5), 2);
        due("one change each", x.count(19), 3);
        due("undo", x.undo(), 2);
        due("all of it is undone", x.count(6), 0);
        due("no fine", x.count(13), 0);
        due("the pad stays empty", x.count(18), 0);
        ExcuseTariffs y = easySchool();
        putText(y, "0am1,1am1,2am1,3am1,4am1,5am1,6am1,7am1,8am1,9am1,0bm1,1bm1");
        due("a whole pad", y.count(18), 59);
        due("twelve stamps", y.read(), 12);
        y.endTerm();
        putText(y, "0am1,1am1,2am1,3am1,4am1,5am1,6am1,7am1,8am1,9am1,0bm1,1bm31");
        due("a full pad", y.count(18), 60);
        due("twelve stamps", y.read(), 12);
        due("31 minutes", y.pupil(0, 6), 1);
    }

    private static void readMinutes() {
        about = "promise 8";
        ExcuseTariffs x = new ExcuseTariffs();
        x.set(ExcuseTariffs.FINE, 1);
        x.add(0, 1);
        putText(x, "0am99,1am10,2am9,3am57,4am30");
        due("no stamp", x.read(), 0);
        int[] minutes = {99, 10, 9, 57, 30};
        for (int p = 0; p < 5; p++) {
            due("fine of " + p, x.pupil(p, 1), minutes[p]);
        }
        putText(x, "5am1,6am1");
        x.wipe();
        putText(x, "7am1");
        due("no stamp", x.read(), 0);
        due("one offer only", x.pupil(7, 3), 1);
        due("nothing of the old text", x.count(10), 6);
        putText(x, "8am1w9,8bm1,6am1");
        due("no stamp", x.read(), 0);
        due("the witness of one offer only", x.pupil(9, 0), 3);
    }

    // ---- promise 9

    private static void excuse() {
        about = "promise 9";
        ExcuseTariffs x = easySchool();
        x.add(4, 7);
        due("kind", x.excuse(2, 0), 4);
        due("worth", x.excuse(2, 1), 7);
        x.offer(0, 0, NONE, 1);
        x.offer(9, 0, NONE, 1);
        x.offer(9, 1, NONE, 1);
        x.offer(9, 0, NONE, 1);
        x.offer(5, 2, NONE, 1);
        due("uses by the school", x.excuse(0, 2), 3);
        due("uses in all terms", x.excuse(0, 3), 3);
        due("who", x.excuse(0, 4), 513);
        due("who of 1", x.excuse(1, 4), 512);
        due("refused is no use", x.excuse(2, 2), 0);
        due("refused is no user", x.excuse(2, 4), 0);
        x.endTerm();
        x.offer(3, 0, NONE, 1);
        due("uses in this term", x.excuse(0, 2), 1);
        due("uses in all terms", x.excuse(0, 3), 4);
        due("who", x.excuse(0, 4), 8);
        due("what -1", x.excuse(0, -1), BAD_VALUE);
        due("what 5", x.excuse(0, 5), BAD_VALUE);
        due("what MIN", x.excuse(0, MIN), BAD_VALUE);
        due("excuse 3", x.excuse(3, 0), NO_SUCH);
        due("excuse -1, what 9", x.excuse(-1, 9), NO_SUCH);
        due("excuse MAX", x.excuse(MAX, 0), NO_SUCH);
    }

    // ---- promise 10

    private static void pupil() {
        about = "promise 10";
        ExcuseTariffs x = easySchool();
        x.offer(6, 0, 3, 40);
        x.offer(6, 1, NONE, 1);
        x.offer(6, 0, NONE, 1);
        x.offer(6, 0, NONE, 4);
        x.pay(6, 8);
        int[] facts = {5, 12, 3, 1, 0, 3, 2, 8};
        for (int what = 0; what < facts.length; what++) {
            due("what " + what, x.pupil(6, what), facts[what]);
        }
        due("witness", x.pupil(3, 0), 4);
        due("classmate's master", x.pupil(7, 6), 2);
        due("the class before", x.pupil(5, 6), 0);
        due("the class after", x.pupil(8, 6), 0);
        x.endTerm();
        int[] later = {7, 12, 3, 1, NONE, 0, 1, 8};
        for (int what = 0; what < later.length; what++) {
            due("later " + what, x.pupil(6, what), later[what]);
        }
        due("what -1", x.pupil(0, -1), BAD_VALUE);
        due("what 8", x.pupil(0, 8), BAD_VALUE);
        due("what MAX", x.pupil(9, MAX), BAD_VALUE);
        due("pupil -1", x.pupil(-1, 8), NO_SUCH);
        due("pupil 10", x.pupil(10, 0), NO_SUCH);
        due("pupil MIN", x.pupil(MIN, 0), NO_SUCH);
    }

    // ---- promise 11

    private static void novelty() {
        about = "promise 11";
        ExcuseTariffs x = new ExcuseTariffs();
        due("no excuse", x.novelty(0, 0), NO_SUCH);
        x.set(ExcuseTariffs.GRUDGE, 0);
        x.set(ExcuseTariffs.NEEDS, 1);
        x.set(ExcuseTariffs.WEARS, 15);
        x.add(0, 99);
        x.add(1, 99);
        due("new", x.novelty(0, 0), 100);
        x.offer(0, 0, NONE, 1);
        due("user", x.novelty(0, 0), 70);
        due("classmate", x.novelty(1, 0), 70);
        due("other class", x.novelty(2, 0), 85);
        due("other excuse", x.novelty(0, 1), 100);
        x.offer(3, 0, NONE, 1);
        due("two uses, one in the class", x.novelty(1, 0), 55);
        due("two uses, none in the class", x.novelty(9, 0), 70);
        x.offer(1, 0, NONE, 1);
        due("three uses, two in the class", x.novelty(0, 0), 25);
        x.set(ExcuseTariffs.WEARS, 20);
        due("exactly 0", x.novelty(0, 0), 0);
        x.set(ExcuseTariffs.WEARS, 50);
        due("not below 0", x.novelty(0, 0), 0);
        due("not below 0 elsewhere", x.novelty(8, 0), 0);
        due("pupil -1", x.novelty(-1, 0), NO_SUCH);
        due("pupil 10", x.novelty(10, 0), NO_SUCH);
        due("excuse 2", x.novelty(0, 2), NO_SUCH);
        due("excuse -1", x.novelty(0, -1), NO_SUCH);
        due("MAX, MIN", x.novelty(MAX, MIN), NO_SUCH);
        x.endTerm();
        due("new term", x.novelty(0, 0), 100);
    }

    // ---- promise 12

    private static void why() {
        about = "promise 12";
        ExcuseTariffs x = easySchool();
        due("stamp", x.why(0, 0, NONE, 99), 0);
        due("stamp with a witness", x.why(0, 0, 1, 99), 0);
        due("nothing changed", x.count(6), 0);
        due("no change", x.count(19), 5);
        due("no latest kind", x.pupil(0, 4), NONE);
        due("witness", x.pupil(1, 0), 5);
        x.offer(0, 0, NONE, 1);
        due("kind", x.why(0, 0, NONE, 1), 2);
        due("no refusal", x.count(8), 0);
        x.set(ExcuseTariffs.NEEDS, 81);
        due("too light alone", x.why(0, 1, NONE, 1), 4);
        due("with a classmate", x.why(0, 1, 1, 1), 0);
        due("no fine", x.pupil(0, 1), 0);
        due("no grudge", x.pupil(0, 6), 0);
        due("the reasons", x.why(0, 1, 5, 50), 4);
        due("one class further", x.why(0, 1, 5, 49), 0);
    }

    // ---- promise 13

    private static void weight() {
        about = "promise 13";
        ExcuseTariffs x = new ExcuseTariffs();
        x.add(0, 99);
        x.add(1, 1);
        due("9 minutes", x.weight(0, 0, NONE, 9), 1099);
        due("10 minutes", x.weight(0, 0, NONE, 10), 1098);
        due("99 minutes", x.weight(0, 0, NONE, 99), 1090);
        due("witness of another class", x.weight(0, 0, 2, 9), 1104);
        due("witness of the class", x.weight(0, 0, 1, 9), 1102);
        x.offer(2, 0, NONE, 1);
        due("99 * 75 / 100", x.weight(0, 0, NONE, 1), 1074);
        due("1 * 100 / 100", x.weight(0, 1, NONE, 1), 1001);
        x.offer(4, 1, NONE, 50);
        due("grudge 1", x.weight(4, 0, NONE, 1), 1070);
        due("below 0", x.weight(4, 1, NONE, 99), 1000 + 1 - 4 - 9);
        due("a refused kind has a weight, too", x.weight(2, 0, NONE, 1), 1049);
        x.set(ExcuseTariffs.GRUDGE, 20);
        for (int i = 0; i < 8; i++) {
            x.offer(4, 1, NONE, 50);
        }
        due("least of all", x.weight(4, 1, NONE, 99), 1000 + 1 - 180 - 9);
        x.set(ExcuseTariffs.WEARS, 50);
        x.set(ExcuseTariffs.NEEDS, 1);
        x.offer(0, 1, NONE, 1);
        due("1 * 50 / 100 rounded down", x.weight(2, 1, NONE, 1), 1000);
        due("nothing changed", x.count(14), 0);
    }

    private static void weightWithWitness() {
        about = "promise 13";
        ExcuseTariffs x = easySchool();
        int[] classmates = {3, 2, 1, 0, 0, 0};
        for (int used = 0; used < 6; used++) {
            due("classmate", x.weight(9, 0, 8, 1), 1080 + classmates[used]);
            due("another", x.weight(7, 0, 8, 1), 1080 + 5 - used);
            x.offer(used, 0, 8, 1);
        }
        for (int t = 0; t < 5; t++) {
            x.endTerm();
        }
        due("credit 9", x.weight(7, 0, 8, 1), 1089);
        due("credit 9 of a classmate", x.weight(9, 0, 8, 1), 1087);
    }

    // ---- promise 14

    private static void count() {
        about = "promise 14";
        ExcuseTariffs x = new ExcuseTariffs();
        x.set(2, 1);
        x.set(0, 45);
        x.add(0, 50);
        x.add(1, 50);
        due("50", x.offer(0, 0, NONE, 1), 0);
        due("50 and 5 less 4", x.offer(0, 1, 4, 40), 0);
        due("used up", x.offer(0, 0, NONE, 2), 1);
        due("37 and 5 less 9", x.offer(2, 0, 5, 99), 4);
        due("same kind", x.offer(2, 0, 5, 3), 2);
        due("37 less 8 and 3", x.offer(2, 1, 5, 3), 4);
        due("37 and 1 less 3", x.offer(6, 0, 5, 31), 4);
        due("no credit", x.offer(7, 0, 5, 4), 3);
        due("37 less 5", x.offer(9, 1, NONE, 50), 4);
        x.pay(0, 4);
        putText(x, "hello,you");
        int[] counts = {45, 25, 1, 5, 4, 2, 2, 1, 1, 1, 4, 956, 4, 960, 0, 44, 8, 0, 9, 6};
        for (int what = 0; what < counts.length; what++) {
            due("what " + what, x.count(what), counts[what]);
        }
        due("two terms", x.endTerm() + x.endTerm(), 2);
        due("terms", x.count(14), 2);
        due("stamps so far", x.count(6), 2);
        due("what -1", x.count(-1), BAD_VALUE);
        due("what 20", x.count(20), BAD_VALUE);
        due("what MIN", x.count(MIN), BAD_VALUE);
        due("what MAX", x.count(MAX), BAD_VALUE);
    }

    private static void countWornOut() {
        about = "promise 14";
        ExcuseTariffs x = new ExcuseTariffs();
        x.set(ExcuseTariffs.WEARS, 30);
        x.set(ExcuseTariffs.NEEDS, 1);
        x.add(0, 99);
        x.add(1, 99);
        x.offer(0, 0, NONE, 1);
        x.offer(2, 0, NONE, 1);
        x.offer(4, 0, NONE, 1);
        due("10 left for 6 to 9", x.count(17), 0);
        x.set(ExcuseTariffs.WEARS, 34);
        due("worn out for all", x.count(17), 1);
        x.set(ExcuseTariffs.WEARS, 33);
        due("1 left for two classes", x.count(17), 0);
        x.set(ExcuseTariffs.WEARS, 20);
        x.offer(6, 0, NONE, 1);
        due("only the last class has novelty", x.novelty(8, 0), 20);
        due("not yet", x.count(17), 0);
        x.offer(8, 0, NONE, 1);
        due("now", x.count(17), 1);
        x.endTerm();
        due("a new term", x.count(17), 0);
        for (int e = 2; e < 12; e++) {
            x.add(e % 5, 99);
        }
        due("twelve excuses, none worn out", x.count(17), 0);
        x.set(ExcuseTariffs.WEARS, 50);
        x.offer(8, 11, NONE, 1);
        x.offer(0, 11, NONE, 1);
        x.offer(2, 0, NONE, 1);
        x.offer(4, 0, NONE, 1);
        due("the first and the last", x.count(17), 2);
    }

    // ---- promise 15

    private static void bestExcuse() {
        about = "promise 15";
        ExcuseTariffs x = new ExcuseTariffs();
        due("no excuses", x.bestExcuse(0, 1), NONE);
        x.add(0, 39);
        due("too light", x.bestExcuse(0, 1), NONE);
        x.add(1, 70);
        x.add(2, 80);
        x.add(3, 80);
        due("the lowest of two", x.bestExcuse(0, 1), 2);
        x.worth(3, 81);
        due("the heaviest", x.bestExcuse(0, 1), 3);
        x.offer(0, 3, NONE, 1);
        due("that kind was offered", x.bestExcuse(0, 1), 2);
        due("worn for the class", x.bestExcuse(1, 1), 2);
        x.worth(1, 40);
        x.worth(2, 40);
        due("just enough at 9 minutes", x.bestExcuse(0, 9), 1);
        due("not at 10", x.bestExcuse(0, 10), NONE);
        due("another class", x.bestExcuse(4, 99), 3);
        due("pupil -1", x.bestExcuse(-1, 1), NO_SUCH);
        due("pupil 10, minutes 0", x.bestExcuse(10, 0), NO_SUCH);
        due("minutes 0", x.bestExcuse(0, 0), BAD_VALUE);
        due("minutes 100", x.bestExcuse(0, 100), BAD_VALUE);
        due("minutes MIN", x.bestExcuse(0, MIN), BAD_VALUE);
        due("nothing changed", x.count(6), 1);
    }

    private static void bestExcusePassesOverRefused() {
        about = "promise 15";
        ExcuseTariffs x = easySchool();
        x.set(ExcuseTariffs.LIMIT, 1);
        x.add(2, 50);
        x.worth(0, 90);
        x.worth(1, 85);
        due("heaviest", x.bestExcuse(5, 1), 0);
        x.offer(5, 0, NONE, 1);
        due("used up and same kind", x.bestExcuse(5, 1), 1);
        x.offer(5, 1, NONE, 1);
        due("0 is used up, 1 is, too", x.bestExcuse(5, 1), 2);
        x.offer(5, 2, NONE, 1);
        due("none", x.bestExcuse(5, 1), NONE);
        x.set(ExcuseTariffs.LIMIT, 2);
        due("two uses", x.bestExcuse(5, 1), 0);
        x.set(ExcuseTariffs.NEEDS, 90);
        due("minutes count", x.bestExcuse(5, 10), NONE);
        ExcuseTariffs y = new ExcuseTariffs();
        for (int e = 0; e < 12; e++) {
            y.add(e % 5, 50 + e);
        }
        for (int p = 0; p < 10; p++) {
            due("the last of twelve", y.bestExcuse(p, 1), 11);
        }
    }

    // ---- promise 16

    private static void bestWitness() {
        about = "promise 16";
        ExcuseTariffs x = easySchool();
        due("of other classes the lowest", x.bestWitness(0, 0, 1), 2);
        due("for another", x.bestWitness(2, 0, 1), 0);
        due("for the classmate", x.bestWitness(1, 0, 1), 2);
        x.offer(4, 0, 2, 1);
        due("2 has lost credit", x.bestWitness(0, 0, 1), 3);
        for (int p = 2; p < 10; p++) {
            for (int i = 0; i < 3; i++) {
                x.offer(p == 4 ? 5 : 4, i % 2, p, 1);
            }
        }
        due("excuses change nothing", x.bestWitness(0, 1, 99), 1);
        due("a refused offer has a weight", x.bestWitness(4, 0, 1), 0);
        due("pupil 10", x.bestWitness(10, 0, 0), NO_SUCH);
        due("pupil -1", x.bestWitness(-1, 0, 1), NO_SUCH);
        due("excuse 2", x.bestWitness(0, 2, 0), NO_SUCH);
        due("excuse -1", x.bestWitness(0, -1, 1), NO_SUCH);
        due("minutes 0", x.bestWitness(0, 0, 0), BAD_VALUE);
        due("minutes 100", x.bestWitness(0, 0, 100), BAD_VALUE);
        noWitness();
        witnessOfTheClass();
    }

    private static void noWitness() {
        ExcuseTariffs x = new ExcuseTariffs();
        x.add(0, 1);
        x.set(ExcuseTariffs.NEEDS, 99);
        x.add(1, 1);
        for (int w = 1; w < 10; w++) {
            for (int i = 0; i < 3; i++) {
                // The kinds take turns, so that each offer is refused for its weight, which takes two credits.
                x.offer(0, (w + i) % 2, w, 1);
            }
            due("credit", x.pupil(w, 0), 0);
        }
        due("nobody else has credit", x.bestWitness(0, 0, 1), NONE);
        due("the pupil itself has", x.pupil(0, 0), 5);
        due("for another it is the only one", x.bestWitness(7, 0, 1), 0);
    }

    private static void witnessOfTheClass() {
        ExcuseTariffs x = new ExcuseTariffs();
        x.set(ExcuseTariffs.NEEDS, 99);
        x.add(0, 1);
        x.add(1, 1);
        for (int w = 2; w < 10; w++) {
            x.offer(0, 0, w, 1);
            x.offer(0, 1, w, 1);
            due("credit", x.pupil(w, 0), 1);
        }
        due("5 less 2 beats 1", x.bestWitness(0, 0, 1), 1);
        x.offer(2, 0, 1, 1);
        due("3 less 2 is 1, and 1 is lower than 2", x.bestWitness(0, 0, 1), 1);
        x.offer(2, 1, 1, 1);
        due("1 less 2 is 0, 2 has 1", x.bestWitness(0, 0, 1), 2);
        x.offer(2, 0, 1, 1);
        due("1 has no credit", x.pupil(1, 0), 0);
        due("2 still", x.bestWitness(0, 0, 1), 2);
    }

    // ---- promise 17

    private static void mostMinutes() {
        about = "promise 17";
        ExcuseTariffs x = new ExcuseTariffs();
        due("no excuse", x.mostMinutes(0, 0), NO_SUCH);
        x.add(0, 39);
        x.add(1, 40);
        x.add(2, 41);
        x.add(3, 48);
        x.add(4, 49);
        due("39", x.mostMinutes(0, 0), NONE);
        due("40", x.mostMinutes(0, 1), 9);
        due("41", x.mostMinutes(0, 2), 19);
        due("48", x.mostMinutes(0, 3), 89);
        due("49", x.mostMinutes(0, 4), 99);
        x.offer(0, 4, NONE, 40);
        due("same kind", x.mostMinutes(0, 4), NONE);
        due("grudge 1", x.mostMinutes(0, 3), 49);
        due("another class", x.mostMinutes(2, 3), 89);
        x.set(ExcuseTariffs.LIMIT, 1);
        x.offer(0, 3, NONE, 1);
        due("used up", x.mostMinutes(0, 4), NONE);
        due("pupil -1", x.mostMinutes(-1, 0), NO_SUCH);
        due("pupil 10", x.mostMinutes(10, 0), NO_SUCH);
        due("excuse 5", x.mostMinutes(0, 5), NO_SUCH);
        due("excuse -1", x.mostMinutes(0, -1), NO_SUCH);
        due("MIN, MAX", x.mostMinutes(MIN, MAX), NO_SUCH);
        due("nothing changed", x.count(6), 2);
    }

    // ---- promise 18

    private static void put() {
        about = "promise 18";
        ExcuseTariffs x = new ExcuseTariffs();
        due("one character", x.put('0'), 1);
        due("two characters", x.put(('a' << 8) | 'm'), 3);
        due("their order", x.fault(), 3);
        due("eight characters", x.put(packed("12w3,4bm")), 11);
        due("their order", x.fault(), 11);
        due("no change", x.count(19), 0);
        x.wipe();
        due("lowest code", x.put(33), 1);
        due("highest code", x.put(126), 2);
        for (int i = 1; i <= 7; i++) {
            x.put(packed("aaaaaaaa"));
        }
        due("length", x.count(18), 58);
        due("three are too many", x.put(packed("abc")), TOO_MANY);
        due("unchanged", x.count(18), 58);
        due("two are not", x.put(packed("ab")), 60);
        due("one is", x.put('a'), TOO_MANY);
        due("a bad one is bad first", x.put(32), BAD_VALUE);
        due("full", x.count(18), 60);
    }

    private static void putErrors() {
        about = "promise 18";
        ExcuseTariffs x = new ExcuseTariffs();
        due("none", x.put(0), BAD_VALUE);
        due("code 32", x.put(32), BAD_VALUE);
        due("code 127", x.put(127), BAD_VALUE);
        due("code 1", x.put(1), BAD_VALUE);
        due("code 255", x.put(255), BAD_VALUE);
        due("code 128 + 65", x.put(128 + 65), BAD_VALUE);
        due("bad first of two", x.put((32 << 8) | 'a'), BAD_VALUE);
        due("bad last of two", x.put(('a' << 8) | 32), BAD_VALUE);
        due("bad first of eight", x.put((127L << 56) | packed("aaaaaaa")), BAD_VALUE);
        due("nothing, then more", x.put('a' << 8), BAD_VALUE);
        due("a gap", x.put(('a' << 16) | 'b'), BAD_VALUE);
        due("a gap, a bit far above", x.put((1L << 62) | 'b'), BAD_VALUE);
        due("a gap, the highest bit", x.put(Long.MIN_VALUE | 'b'), BAD_VALUE);
        due("a gap below the first of eight", x.put(((long) 'a' << 56) | packed("aaaaaa")), BAD_VALUE);
        due("-1", x.put(-1L), BAD_VALUE);
        due("Long.MIN_VALUE", x.put(Long.MIN_VALUE), BAD_VALUE);
        due("Long.MAX_VALUE", x.put(Long.MAX_VALUE), BAD_VALUE);
        due("nothing was put", x.count(18), 0);
    }

    // ---- promise 19

    private static void wipe() {
        about = "promise 19";
        ExcuseTariffs x = new ExcuseTariffs();
        due("empty", x.wipe(), 0);
        putText(x, "0am1,zz");
        due("seven", x.wipe(), 7);
        due("empty then", x.count(18), 0);
        due("again", x.wipe(), 0);
        due("fault", x.fault(), 0);
        due("no change", x.count(19), 0);
        putText(x, "1");
        due("no rest of the old text", x.fault(), 1);
    }

    // ---- promise 20

    private static void faultOf(String text, int want) {
        ExcuseTariffs x = new ExcuseTariffs();
        putText(x, text);
        due("fault of " + text, x.fault(), want);
        due("length of " + text, x.count(18), text.length());
        due("read of " + text, x.read() == BAD_TEXT ? 1 : 0, want == NONE ? 0 : 1);
    }

    private static void faultAtEachPlace() {
        about = "promise 20";
        String[] good = {"0am1", "9lm99", "5fm10", "0am1w1", "1bm90w9", "0am1,0am1", "0am12w3,4lm5w6,7cm8", "3dm3w0,0am3w3"};
        for (String text : good) {
            faultOf(text, NONE);
        }
        faultOf("a", 0);
        faultOf(",", 0);
        faultOf("/am1", 0);
        faultOf(":am1", 0);
        faultOf("00m1", 1);
        faultOf("0mm1", 1);
        faultOf("0`m1", 1);
        faultOf("0Am1", 1);
        faultOf("10am1", 1);
        faultOf("0a1", 2);
        faultOf("0aM1", 2);
        faultOf("0aw1", 2);
        faultOf("0am0", 3);
        faultOf("0am05", 3);
        faultOf("0amw1", 3);
        faultOf("0am-5", 3);
        faultOf("0am,", 3);
        faultOf("0am1x", 4);
        faultOf("0am1.1am1", 4);
        faultOf("0am100", 5);
        faultOf("0am999", 5);
        faultOf("0am10m", 5);
        faultOf("0am1wx", 5);
        faultOf("0am1w,", 5);
        faultOf("0am1w11", 6);
        faultOf("0am1w1w", 6);
        faultOf("0am1,,", 5);
        faultOf("0am1,a", 5);
        faultOf("0am1w2,1bm2w3,2cm3w4,3dm4w5,4em100", 33);
    }

    private static void faultTooEarly() {
        about = "promise 20";
        due("empty", new ExcuseTariffs().fault(), 0);
        String text = "0am1w1,1lm23,";
        boolean[] whole = {false, false, false, false, true, false, true, false, false, false, false, true, true, false};
        for (int length = 1; length <= text.length(); length++) {
            faultOf(text.substring(0, length), whole[length] ? NONE : length);
        }
    }

    private static void faultOfWitness() {
        about = "promise 20";
        for (int p = 0; p < 10; p++) {
            for (int w = 0; w < 10; w++) {
                faultOf(p + "am7w" + w, p == w ? 5 : NONE);
                faultOf("5lm71w3," + p + "bm17w" + w, p == w ? 14 : NONE);
            }
        }
        for (char c = 33; c < 127; c++) {
            boolean digit = c >= '0' && c <= '9';
            boolean letter = c >= 'a' && c <= 'l';
            faultOf(c + "am1", digit ? NONE : 0);
            faultOf("0" + c + "m1", letter ? NONE : 1);
            faultOf("0a" + c + "1", c == 'm' ? NONE : 2);
            faultOf("0am" + c, digit && c != '0' ? NONE : 3);
            faultOf("0am1" + c, digit ? NONE : c == 'w' || c == ',' ? 5 : 4);
            faultOf("0am12" + c, c == 'w' || c == ',' ? 6 : 5);
            faultOf("0am1w" + c, digit && c != '0' ? NONE : 5);
            faultOf("0am1w2" + c, c == ',' ? 7 : 6);
        }
    }

    // ---- promise 21

    private static void undo() {
        about = "promise 21";
        ExcuseTariffs x = new ExcuseTariffs();
        due("nothing", x.undo(), NOT_POSSIBLE);
        x.add(0, 99);
        x.offer(0, 0, 2, 40);
        x.offer(0, 0, 2, 40);
        due("three", x.count(19), 3);
        due("undo", x.undo(), 2);
        due("fine", x.pupil(0, 1), 0);
        due("refused", x.count(8), 0);
        due("grudge", x.count(16), 1);
        due("stamp is there", x.count(6), 1);
        due("undo", x.undo(), 1);
        due("stamp", x.count(6), 0);
        due("uses", x.excuse(0, 2), 0);
        due("uses in all terms", x.excuse(0, 3), 0);
        due("credit", x.pupil(2, 0), 5);
        due("grudge", x.count(16), 0);
        due("latest kind", x.pupil(0, 4), NONE);
        due("undo", x.undo(), 0);
        due("excuses", x.count(5), 0);
        due("nothing is left", x.undo(), NOT_POSSIBLE);
        due("add anew", x.add(3, 12), 0);
        due("kind", x.excuse(0, 0), 3);
        due("worth", x.excuse(0, 1), 12);
    }

    private static void undoOfEachChange() {
        about = "promise 21";
        ExcuseTariffs x = new ExcuseTariffs();
        x.add(0, 50);
        x.set(0, 1);
        due("of set", x.undo(), 1);
        due("NEEDS", x.count(0), 40);
        x.worth(0, 51);
        due("of worth", x.undo(), 1);
        due("worth", x.excuse(0, 1), 50);
        x.offer(0, 0, NONE, 99);
        x.offer(0, 0, NONE, 99);
        x.pay(0, 5);
        due("of pay", x.undo(), 3);
        due("fine", x.pupil(0, 1), 495);
        due("paid", x.pupil(0, 7), 0);
        due("endTerm", x.endTerm(), 1);
        due("of endTerm", x.undo(), 3);
        due("terms", x.count(14), 0);
        due("credits", x.count(15), 50);
        due("grudges", x.count(16), 2);
        due("latest kind", x.pupil(0, 4), 0);
        due("uses", x.excuse(0, 4), 1);
        due("endTerm once more", x.endTerm(), 1);
        x.undo();
        x.save(1);
        x.endTerm();
        x.restore(1);
        due("of restore", x.undo(), 4);
        due("terms", x.count(14), 1);
        putText(x, "4am3,");
        due("undo leaves the pad", x.undo(), 3);
        due("pad", x.count(18), 5);
        due("slot stays", x.restore(1), 0);
        due("a change with nothing different", x.set(0, 40), 40);
        due("is one, too", x.count(19), 5);
        due("set back to the same", x.undo(), 4);
    }

    private static void undoHistory() {
        about = "promise 21";
        ExcuseTariffs x = new ExcuseTariffs();
        for (int i = 1; i <= 20; i++) {
            x.set(0, i);
            due("at most six", x.count(19), Math.min(6, i));
        }
        for (int i = 1; i <= 6; i++) {
            due("undo", x.undo(), 6 - i);
            due("NEEDS", x.count(0), 20 - i);
        }
        due("the oldest were dropped", x.undo(), NOT_POSSIBLE);
        due("NEEDS", x.count(0), 14);
        x.set(0, 50);
        x.set(0, 60);
        due("undo", x.undo(), 1);
        x.set(0, 70);
        x.set(0, 80);
        due("undo", x.undo(), 2);
        due("NEEDS", x.count(0), 70);
        due("undo", x.undo(), 1);
        due("NEEDS", x.count(0), 50);
        due("undo", x.undo(), 0);
        due("NEEDS", x.count(0), 14);
    }

    private static void errorsRecordNothing() {
        about = "promise 21";
        ExcuseTariffs x = new ExcuseTariffs();
        x.set(0, 100);
        x.add(5, 1);
        x.worth(0, 1);
        x.offer(0, 0, NONE, 1);
        x.pay(0, 1);
        x.read();
        x.restore(0);
        x.restore(2);
        x.save(0);
        x.put('a');
        x.fault();
        x.wipe();
        due("no change", x.count(19), 0);
        due("undo", x.undo(), NOT_POSSIBLE);
        for (int e = 0; e < 12; e++) {
            x.add(0, 1);
        }
        x.undo();
        x.add(0, 1);
        x.undo();
        x.undo();
        due("four", x.count(19), 4);
        x.add(0, 1);
        x.add(0, 1);
        x.add(0, 1);
        due("six, not seven", x.count(19), 6);
    }

    // ---- promise 22

    private static void save() {
        about = "promise 22";
        ExcuseTariffs x = new ExcuseTariffs();
        due("slot -1", x.save(-1), BAD_VALUE);
        due("slot 2", x.save(2), BAD_VALUE);
        due("slot MIN", x.save(MIN), BAD_VALUE);
        due("slot MAX", x.save(MAX), BAD_VALUE);
        due("slot 0", x.save(0), 0);
        due("slot 1 is empty", x.restore(1), NOT_POSSIBLE);
        x.endTerm();
        x.endTerm();
        due("slot 1", x.save(1), 2);
        due("saving is no change", x.count(19), 2);
        x.endTerm();
        due("slot 0 is written over", x.save(0), 3);
        x.endTerm();
        due("slot 0", x.restore(0), 3);
        due("slot 1", x.restore(1), 2);
        x.undo();
        due("undo", x.count(14), 3);
        due("a save outlives an undo", x.save(1), 3);
        x.undo();
        x.undo();
        due("slot 1", x.restore(1), 3);
    }

    // ---- promise 23

    private static void restore() {
        about = "promise 23";
        ExcuseTariffs x = new ExcuseTariffs();
        due("slot -1", x.restore(-1), BAD_VALUE);
        due("slot 2", x.restore(2), BAD_VALUE);
        due("slot MAX", x.restore(MAX), BAD_VALUE);
        due("nothing saved", x.restore(0), NOT_POSSIBLE);
        x.add(0, 40);
        x.save(0);
        x.endTerm();
        putText(x, "0am1");
        due("back", x.restore(0), 0);
        due("terms", x.count(14), 0);
        due("the pad is kept", x.count(18), 4);
        due("a change", x.count(19), 3);
        x.worth(0, 41);
        due("the slot keeps it", x.restore(0), 0);
        due("worth", x.excuse(0, 1), 40);
        x.worth(0, 42);
        due("a third time", x.restore(0), 0);
        due("worth", x.excuse(0, 1), 40);
        due("undo", x.undo(), 5);
        due("worth", x.excuse(0, 1), 42);
    }

    private static void restoreBringsEverythingBack() {
        about = "promise 23";
        Consumer<ExcuseTariffs> saved = PromiseTests::firstTerms;
        Consumer<ExcuseTariffs> changed = saved.andThen(PromiseTests::laterTerms);
        Consumer<ExcuseTariffs> restored = changed.andThen(x -> due("slot 1", x.restore(1), 1));
        Consumer<ExcuseTariffs> undone = restored.andThen(x -> due("undo", x.undo(), 5));
        Consumer<ExcuseTariffs> other = restored.andThen(x -> due("slot 0", x.restore(0), 2));
        int[] before = pictureAfter(saved);
        int[] after = pictureAfter(changed);
        sameSchool("restored", pictureAfter(restored), before);
        sameSchool("undone", pictureAfter(undone), after);
        sameSchool("the other slot restored", pictureAfter(other), after);
    }

    private static void firstTerms(ExcuseTariffs x) {
        x.add(0, 70);
        x.add(1, 80);
        x.offer(0, 0, 5, 40);
        x.offer(0, 0, 5, 40);
        x.offer(3, 1, 8, 9);
        x.pay(0, 50);
        x.endTerm();
        x.offer(4, 1, 7, 31);
        x.offer(6, 0, 4, 20);
        x.save(1);
    }

    private static void laterTerms(ExcuseTariffs x) {
        x.add(2, 5);
        x.worth(1, 3);
        x.set(0, 60);
        x.set(1, 50);
        x.set(2, 9);
        x.set(3, 60);
        x.set(4, 20);
        x.offer(0, 1, 2, 99);
        x.offer(1, 0, 2, 99);
        x.pay(0, 7);
        x.endTerm();
        x.offer(9, 1, 2, 99);
        x.save(0);
    }

    private static void restoreBringsTheListBack() {
        about = "promise 23";
        ExcuseTariffs x = new ExcuseTariffs();
        x.save(1);
        x.add(0, 50);
        x.save(0);
        x.undo();
        due("another kind", x.add(3, 60), 0);
        x.restore(0);
        due("kind", x.excuse(0, 0), 0);
        due("worth", x.excuse(0, 1), 50);
        due("undo", x.undo(), 1);
        due("kind", x.excuse(0, 0), 3);
        x.offer(0, 0, NONE, 1);
        due("slot 1", x.restore(1), 0);
        due("no excuse", x.excuse(0, 0), NO_SUCH);
        due("add", x.add(3, 60), 0);
        due("uses in all terms", x.excuse(0, 3), 0);
        due("users", x.excuse(0, 4), 0);
    }
}
