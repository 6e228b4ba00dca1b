/** The boundary cases of promises 7, 9 and 10: the end of a term, and what is told of excuses and pupils. */
final class BoundariesOfTerms extends Checks {

    // ---- promise 7

    @Sentence(promise = 7, says = "Returns how many stamps were given in it.")
    static void stampsOfATerm() {
        ExcuseTariffs x = easySchool();
        due("a term without an offer", x.endTerm(), 0);
        due("refused", x.offer(0, 0, NONE, 1) + x.offer(0, 0, NONE, 1), 2);
        due("refused offers are no stamps", x.endTerm(), 1);
        due("not those of the terms before", x.endTerm(), 0);
        for (int p = 0; p < 10; p++) {
            x.offer(p, p % 2, NONE, 1);
            x.offer(p, 1 - p % 2, NONE, 1);
        }
        due("twenty", x.endTerm(), 20);
        due("in all", x.count(6), 21);
        due("terms", x.count(14), 4);
    }

    @Sentence(promise = 7, says = "Returns how many stamps were given in it.")
    static void stampsOfATermThatCameBack() {
        ExcuseTariffs x = easySchool();
        x.offer(0, 0, NONE, 1);
        x.offer(1, 0, NONE, 1);
        x.undo();
        due("an undone stamp is none", x.endTerm(), 1);
        x.undo();
        due("the term goes on", x.offer(2, 0, NONE, 1), 0);
        x.save(0);
        due("two", x.endTerm(), 2);
        due("a new term", x.offer(0, 0, NONE, 1), 0);
        x.restore(0);
        due("two once more", x.endTerm(), 2);
    }

    @Sentence(promise = 7, says = "When a term ends, all uses are 0")
    static void usesEnd() {
        ExcuseTariffs x = school(99, 99, 99, 99, 99, 99, 99, 99, 99, 99, 99, 99);
        for (int p = 0; p < 10; p++) {
            due("a stamp", x.offer(p, p, NONE, 1), 0);
        }
        due("a stamp", x.offer(9, 11, NONE, 1), 0);
        due("stamps", x.endTerm(), 11);
        for (int p = 0; p < 10; p++) {
            due("uses of pupil " + p, x.pupil(p, 5), 0);
        }
        for (int e = 0; e < 12; e++) {
            due("uses by the school", x.excuse(e, 2), 0);
            due("who", x.excuse(e, 4), 0);
            due("uses in all terms", x.excuse(e, 3), e == 10 ? 0 : 1);
            due("novelty", x.novelty(9, e), 100);
        }
        due("novelty for the first", x.novelty(0, 0), 100);
        x.set(LIMIT, 1);
        due("no limit is reached", x.offer(9, 11, NONE, 1), 0);
    }

    @Sentence(promise = 7, says = "nobody has offered anything")
    static void nobodyHasOffered() {
        ExcuseTariffs x = school(99, 1);
        x.set(WEARS, 0);
        for (int p = 0; p < 10; p++) {
            x.offer(p, p % 2, NONE, 1);
            due("latest kind", x.pupil(p, 4), p % 2);
        }
        x.endTerm();
        for (int p = 0; p < 10; p++) {
            due("latest kind", x.pupil(p, 4), NONE);
        }
        due("kind 0 is new to the first", x.offer(0, 0, NONE, 1), 0);
        due("stamps so far are not forgotten", x.pupil(2, 2), 1);
        due("nor refused offers", x.pupil(3, 3), 1);
    }

    @Sentence(promise = 7, says = "grudges become half of what they were")
    static void grudgesAreHalved() {
        for (int grudge = 0; grudge <= 9; grudge++) {
            ExcuseTariffs x = easySchool();
            anger(x, 9, grudge);
            due("grudge", x.pupil(9, 6), grudge);
            x.endTerm();
            due("half of " + grudge, x.pupil(9, 6), grudge / 2);
            due("all grudges", x.count(16), grudge / 2);
        }
        ExcuseTariffs y = easySchool();
        for (int c = 0; c < 5; c++) {
            anger(y, 2 * c, 2 * c + 1);
        }
        y.endTerm();
        for (int c = 0; c < 5; c++) {
            due("half for each master, rounded down", y.pupil(2 * c, 6), c);
        }
    }

    @Sentence(promise = 7, says = "each pupil's credit becomes 2 more (9 at most)")
    static void creditsGrow() {
        for (int taken = 0; taken <= 5; taken++) {
            ExcuseTariffs x = easySchool();
            standBy(x, 0, taken);
            for (int term = 1; term <= 6; term++) {
                x.endTerm();
                due("5 less " + taken, x.pupil(0, 0), Math.min(9, 5 - taken + 2 * term));
                due("another", x.pupil(9, 0), Math.min(9, 5 + 2 * term));
            }
            due("all credits", x.count(15), 90);
        }
    }

    @Sentence(promise = 7, says = "fines stay.")
    static void finesStay() {
        ExcuseTariffs x = school(1);
        for (int p = 0; p < 10; p++) {
            x.offer(p, 0, NONE, p + 1);
        }
        x.pay(9, 1);
        x.endTerm();
        for (int p = 0; p < 9; p++) {
            due("fine of " + p, x.pupil(p, 1), 5 * (p + 1));
        }
        due("fine of 9", x.pupil(9, 1), 49);
        due("paid by 9", x.pupil(9, 7), 1);
        due("all", x.count(11), 274);
        due("the rest may be paid", x.pay(9, 49), 0);
    }

    // ---- promise 9

    @Sentence(promise = 9, says = "- `what`: 0 its kind, 1 its worth, 2 uses by the school in this term, 3 uses in all terms,"
            + " 4 pupils who used it in this term, as a set (a bit mask)")
    static void eachFactOfAnExcuse() {
        ExcuseTariffs x = new ExcuseTariffs();
        x.add(4, 99);
        x.set(WEARS, 0);
        int[] atFirst = {4, 99, 0, 0, 0};
        for (int what = 0; what < 5; what++) {
            due("what " + what, x.excuse(0, what), atFirst[what]);
        }
        x.offer(3, 0, NONE, 1);
        x.endTerm();
        x.offer(0, 0, NONE, 1);
        x.offer(9, 0, NONE, 1);
        int[] later = {4, 99, 2, 3, 513};
        for (int what = 0; what < 5; what++) {
            due("what " + what, x.excuse(0, what), later[what]);
        }
    }

    @Sentence(promise = 9, says = "4 pupils who used it in this term, as a set (a bit mask)")
    static void setOfPupils() {
        ExcuseTariffs x = easySchool();
        due("nobody", x.excuse(0, 4), 0);
        int set = 0;
        for (int p = 9; p >= 0; p--) {
            x.offer(p, 0, NONE, 1);
            set |= 1 << p;
            due("with " + p, x.excuse(0, 4), set);
        }
        due("all of them", x.excuse(0, 4), 1023);
        x.offer(4, 1, NONE, 1);
        x.offer(4, 0, NONE, 1);
        due("twice is no other set", x.excuse(0, 4), 1023);
        due("of the other", x.excuse(1, 4), 16);
        x.endTerm();
        due("in a new term", x.excuse(0, 4), 0);
    }

    @Sentence(promise = 9, says = "BAD_VALUE if what is out of range.")
    static void noSuchFactOfAnExcuse() {
        ExcuseTariffs x = school(99);
        for (int what : new int[] {MIN, NONE, -1, 5, 6, MAX}) {
            due("what " + what, x.excuse(0, what), BAD_VALUE);
        }
    }

    @Sentence(promise = 9, says = "Returns the number; NO_SUCH if there is no such excuse; BAD_VALUE if what is out of range.")
    static void factsOfNoExcuse() {
        ExcuseTariffs x = new ExcuseTariffs();
        for (int what = -1; what <= 5; what++) {
            due("empty list", x.excuse(0, what), NO_SUCH);
        }
        x.add(0, 99);
        for (int excuse : new int[] {MIN, NONE, -1, 1, 11, 12, MAX}) {
            due("excuse " + excuse, x.excuse(excuse, 0), NO_SUCH);
            due("nor what", x.excuse(excuse, 5), NO_SUCH);
        }
        due("the only one", x.excuse(0, 1), 99);
        ExcuseTariffs y = school(1, 2, 3, 4, 5, 6, 7, 8, 9, 10, 11, 12);
        due("the twelfth", y.excuse(11, 1), 12);
        due("a thirteenth", y.excuse(12, 1), NO_SUCH);
    }

    // ---- promise 10

    @Sentence(promise = 10, says = "- `what`: 0 the credit, 1 the fine, 2 stamps so far, 3 refused offers so far, 4 the latest"
            + " kind offered in this term (NONE), 5 uses of all excuses by the pupil in this term, 6 the grudge of its"
            + " master, 7 what it paid so far")
    static void eachFactOfAPupil() {
        ExcuseTariffs x = easySchool();
        int[] atFirst = {5, 0, 0, 0, NONE, 0, 0, 0};
        for (int what = 0; what < 8; what++) {
            due("what " + what, x.pupil(9, what), atFirst[what]);
        }
        x.offer(9, 1, NONE, 1);
        x.endTerm();
        x.offer(9, 0, NONE, 1);
        x.offer(9, 0, NONE, 99);
        x.offer(9, 1, NONE, 1);
        x.pay(9, 95);
        int[] later = {7, 400, 3, 1, 1, 2, 1, 95};
        for (int what = 0; what < 8; what++) {
            due("what " + what, x.pupil(9, what), later[what]);
        }
    }

    @Sentence(promise = 10, says = "4 the latest kind offered in this term (NONE)")
    static void latestKindOrNone() {
        ExcuseTariffs x = easySchool();
        due("nothing offered", x.pupil(0, 4), NONE);
        x.offer(0, 0, NONE, 1);
        due("kind 0", x.pupil(0, 4), 0);
        due("another", x.pupil(1, 4), NONE);
        x.undo();
        due("undone", x.pupil(0, 4), NONE);
        x.offer(0, 1, NONE, 1);
        x.endTerm();
        due("a new term", x.pupil(0, 4), NONE);
    }

    @Sentence(promise = 10, says = "3 refused offers so far")
    static void refusedForEachReason() {
        ExcuseTariffs x = easySchool();
        x.add(2, 1);
        x.set(LIMIT, 1);
        standBy(x, 9, 5);
        due("reason 1", x.offer(0, 0, NONE, 1), 1);
        due("refused", x.pupil(0, 3), 1);
        due("reason 4", x.offer(6, 2, NONE, 1), 4);
        due("refused", x.pupil(6, 3), 1);
        due("reason 2", x.offer(6, 2, NONE, 1), 2);
        due("refused", x.pupil(6, 3), 2);
        due("reason 3", x.offer(8, 0, 9, 1), 3);
        due("refused", x.pupil(8, 3), 1);
        due("not the witness", x.pupil(9, 3), 0);
        x.endTerm();
        due("so far, not in this term", x.pupil(6, 3), 2);
    }

    @Sentence(promise = 10, says = "BAD_VALUE if what is out of range.")
    static void noSuchFactOfAPupil() {
        ExcuseTariffs x = new ExcuseTariffs();
        for (int what : new int[] {MIN, NONE, -1, 8, 9, MAX}) {
            due("what " + what, x.pupil(0, what), BAD_VALUE);
        }
    }

    @Sentence(promise = 10, says = "Returns the number; NO_SUCH if there is no such pupil; BAD_VALUE if what is out of range.")
    static void factsOfNoPupil() {
        ExcuseTariffs x = new ExcuseTariffs();
        for (int pupil : new int[] {MIN, NONE, -1, 10, 11, MAX}) {
            due("pupil " + pupil, x.pupil(pupil, 0), NO_SUCH);
            due("nor what", x.pupil(pupil, 8), NO_SUCH);
            due("nor what", x.pupil(pupil, -1), NO_SUCH);
        }
        due("pupil 0", x.pupil(0, 0), 5);
        due("pupil 9", x.pupil(9, 0), 5);
    }
}
