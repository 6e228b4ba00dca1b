/** The boundary cases of promises 5, 6 and 11 to 13: offers, what they weigh, what they bring, and payments. */
final class BoundariesOfOffers extends Checks {
    private static final int OFFER = 0, WHY = 1, WEIGHT = 2;
    private static final int[] NO_PUPILS = {MIN, NONE, -1, 10, 11, MAX};
    private static final int[] NO_MINUTES = {MIN, NONE, -1, 0, 100, MAX};

    // ---- the errors that offer(), why() and weight() share

    private static int ask(ExcuseTariffs x, int call, int pupil, int excuse, int witness, int minutes) {
        if (call == OFFER) {
            return x.offer(pupil, excuse, witness, minutes);
        }
        return call == WHY ? x.why(pupil, excuse, witness, minutes) : x.weight(pupil, excuse, witness, minutes);
    }

    /** What a call answers to an offer of minutes 1 of a new excuse that is worth 99, without a witness. */
    private static int good(int call) {
        return call == WEIGHT ? 1099 : 0;
    }

    private static void noSuchPupil(int call) {
        ExcuseTariffs x = school(99);
        for (int pupil : NO_PUPILS) {
            due("pupil " + pupil, ask(x, call, pupil, 0, NONE, 1), NO_SUCH);
        }
        due("pupil 0", ask(x, call, 0, 0, NONE, 1), good(call));
        ExcuseTariffs y = school(99);
        due("pupil 9", ask(y, call, 9, 0, NONE, 1), good(call));
    }

    private static void noSuchExcuse(int call) {
        ExcuseTariffs x = new ExcuseTariffs();
        due("empty list", ask(x, call, 0, 0, NONE, 1), NO_SUCH);
        x.add(0, 99);
        for (int excuse : new int[] {MIN, NONE, -1, 1, 11, 12, MAX}) {
            due("excuse " + excuse, ask(x, call, 0, excuse, NONE, 1), NO_SUCH);
        }
        due("the only one", ask(x, call, 0, 0, NONE, 1), good(call));
        ExcuseTariffs y = school(1, 1, 1, 1, 1, 1, 1, 1, 1, 1, 1, 99);
        due("the twelfth", ask(y, call, 0, 11, NONE, 1), good(call));
        due("a thirteenth", ask(y, call, 0, 12, NONE, 1), NO_SUCH);
        ExcuseTariffs z = school(50, 99);
        z.undo();
        due("one whose coming was undone", ask(z, call, 0, 1, NONE, 1), NO_SUCH);
    }

    private static void noSuchWitness(int call) {
        ExcuseTariffs x = school(99);
        for (int witness : new int[] {MIN, -7, -5, -4, -3, -2, -1, 10, 11, MAX}) {
            due("witness " + witness, ask(x, call, 0, 0, witness, 1), NO_SUCH);
        }
        due("no witness", ask(x, call, 1, 0, NONE, 1), good(call));
        ExcuseTariffs y = school(99);
        due("witness 9", ask(y, call, 2, 0, 9, 1), call == WEIGHT ? 1104 : 0);
        ExcuseTariffs z = school(99);
        due("witness 0", ask(z, call, 2, 0, 0, 1), call == WEIGHT ? 1104 : 0);
    }

    private static void minutesOutOfRange(int call) {
        ExcuseTariffs x = school(99);
        for (int minutes : NO_MINUTES) {
            due("minutes " + minutes, ask(x, call, 0, 0, NONE, minutes), BAD_VALUE);
        }
        due("minutes 1", ask(x, call, 0, 0, NONE, 1), good(call));
        ExcuseTariffs y = school(99);
        due("minutes 99", ask(y, call, 9, 0, NONE, 99), call == WEIGHT ? 1090 : 0);
    }

    private static void witnessIsThePupil(int call) {
        for (int p = 0; p < 10; p++) {
            ExcuseTariffs x = school(99);
            due("pupil and witness " + p, ask(x, call, p, 0, p, 1), BAD_VALUE);
            due("pupil and witness, and minutes", ask(x, call, p, 0, p, 0), BAD_VALUE);
            due("the next one", ask(x, call, p, 0, (p + 1) % 10, 1) >= 0 ? 1 : 0, 1);
        }
    }

    private static void noSuchComesFirst(int call) {
        ExcuseTariffs x = school(99);
        due("pupil and minutes", ask(x, call, 10, 0, NONE, 0), NO_SUCH);
        due("excuse and minutes", ask(x, call, 0, 1, NONE, 100), NO_SUCH);
        due("witness and minutes", ask(x, call, 0, 0, 10, 0), NO_SUCH);
        due("excuse, and the witness is the pupil", ask(x, call, 3, 1, 3, 1), NO_SUCH);
        due("no such pupil is its own witness", ask(x, call, 10, 0, 10, 1), NO_SUCH);
        due("pupil and witness -1", ask(x, call, -1, 0, -1, 1), NO_SUCH);
        due("pupil and witness NONE", ask(x, call, NONE, 0, NONE, 1), NO_SUCH);
    }

    // ---- promise 5: errors

    @Sentence(promise = 5, says = "Returns 0 if it gets a stamp, otherwise the reason, 1 to 4")
    static void fromStampToFour() {
        ExcuseTariffs x = school(99, 99, 1);
        x.set(WEARS, 0);
        x.set(LIMIT, 1);
        due("a stamp", x.offer(0, 0, 9, 1), 0);
        due("used up", x.offer(0, 0, 9, 1), 1);
        due("another", x.offer(1, 1, 9, 1), 0);
        due("another", x.offer(2, 0, 9, 1), 0);
        x.set(LIMIT, 2);
        due("same kind", x.offer(0, 0, 9, 1), 2);
        due("another", x.offer(3, 0, 9, 1), 0);
        due("another", x.offer(4, 0, 9, 1), 0);
        due("no credit", x.offer(0, 1, 9, 1), 3);
        due("too light", x.offer(0, 2, NONE, 1), 4);
    }

    @Sentence(promise = 5, says = "NO_SUCH if there is no such pupil, excuse or witness")
    static void offerOfNoPupil() {
        noSuchPupil(OFFER);
    }

    @Sentence(promise = 5, says = "NO_SUCH if there is no such pupil, excuse or witness")
    static void offerOfNoExcuse() {
        noSuchExcuse(OFFER);
    }

    @Sentence(promise = 5, says = "- `witness`: another pupil, or NONE")
    static void offerOfNoWitness() {
        noSuchWitness(OFFER);
    }

    @Sentence(promise = 5, says = "- `minutes`: 1 to 99")
    static void offerOfNoMinutes() {
        minutesOutOfRange(OFFER);
    }

    @Sentence(promise = 5, says = "BAD_VALUE if minutes is out of range, or the witness is the pupil")
    static void offerOfThePupilAsWitness() {
        witnessIsThePupil(OFFER);
    }

    @Sentence(promise = 5, says = "NO_SUCH if there is no such pupil, excuse or witness; BAD_VALUE if minutes is out of")
    static void offerNamesNoSuchFirst() {
        noSuchComesFirst(OFFER);
    }

    // ---- promise 5: the reasons

    @Sentence(promise = 5, says = "1 the pupil has used this excuse LIMIT times or more in this term")
    static void limitOfThree() {
        ExcuseTariffs x = easySchool();
        x.set(LIMIT, 3);
        for (int use = 1; use <= 3; use++) {
            due("use " + use, x.offer(0, 0, NONE, 1), 0);
            due("the other", x.offer(0, 1, NONE, 1), 0);
        }
        due("a fourth", x.offer(0, 0, NONE, 1), 1);
        due("a fourth of the other", x.offer(0, 1, NONE, 1), 1);
        due("the classmate has used it 0 times", x.offer(1, 0, NONE, 1), 0);
        due("the school, 4 times; another 0 times", x.offer(9, 0, NONE, 1), 0);
    }

    @Sentence(promise = 5, says = "1 the pupil has used this excuse LIMIT times or more in this term")
    static void limitsOfOneAndNine() {
        ExcuseTariffs x = easySchool();
        x.set(LIMIT, 1);
        due("one", x.offer(4, 0, NONE, 1), 0);
        due("a second", x.offer(4, 0, NONE, 1), 1);
        ExcuseTariffs y = easySchool();
        for (int use = 1; use <= 9; use++) {
            due("use " + use, y.offer(4, 0, NONE, 1), 0);
            due("the other", y.offer(4, 1, NONE, 1), 0);
        }
        due("a tenth", y.offer(4, 0, NONE, 1), 1);
    }

    @Sentence(promise = 5, says = "LIMIT times or more")
    static void moreUsesThanTheLimit() {
        ExcuseTariffs x = easySchool();
        for (int use = 0; use < 3; use++) {
            x.offer(0, 0, NONE, 1);
            x.offer(0, 1, NONE, 1);
        }
        x.set(LIMIT, 4);
        due("three uses of four", x.why(0, 0, NONE, 1), 0);
        x.set(LIMIT, 3);
        due("three uses of three", x.why(0, 0, NONE, 1), 1);
        x.set(LIMIT, 1);
        due("three uses of one", x.why(0, 0, NONE, 1), 1);
    }

    @Sentence(promise = 5, says = "the pupil has used this excuse")
    static void refusedOffersAreNoUses() {
        ExcuseTariffs x = easySchool();
        x.set(LIMIT, 2);
        due("a use", x.offer(0, 0, NONE, 1), 0);
        due("no use", x.offer(0, 0, NONE, 1), 2);
        due("no use", x.offer(0, 0, NONE, 1), 2);
        due("the other", x.offer(0, 1, NONE, 1), 0);
        due("the second use", x.offer(0, 0, NONE, 1), 0);
        due("no third", x.offer(0, 0, NONE, 1), 1);
    }

    @Sentence(promise = 5, says = "or more in this term")
    static void limitIsOfATerm() {
        ExcuseTariffs x = easySchool();
        x.set(LIMIT, 1);
        x.offer(0, 0, NONE, 1);
        due("used up", x.why(0, 0, NONE, 1), 1);
        x.endTerm();
        due("a new term", x.offer(0, 0, NONE, 1), 0);
        due("used up", x.why(0, 0, NONE, 1), 1);
    }

    @Sentence(promise = 5, says = "2 the latest offer of this pupil in this term (stamped or refused) was of an excuse of the")
    static void sameKindAfterAStamp() {
        for (int kind = 0; kind < 5; kind++) {
            ExcuseTariffs x = new ExcuseTariffs();
            x.add(kind, 99);
            x.add(kind, 99);
            x.add((kind + 1) % 5, 99);
            due("the first offer of the term", x.offer(0, 0, NONE, 1), 0);
            due("the same excuse", x.why(0, 0, NONE, 1), 2);
            due("another of its kind", x.why(0, 1, NONE, 1), 2);
            due("one of another kind", x.why(0, 2, NONE, 1), 0);
            due("the classmate", x.why(1, 1, NONE, 1), 0);
        }
    }

    @Sentence(promise = 5, says = "(stamped or refused)")
    static void sameKindAfterARefusal() {
        ExcuseTariffs x = school(1, 99, 99, 99, 99, 99);
        due("too light", x.offer(0, 0, NONE, 1), 4);
        due("kind 0 again", x.offer(0, 5, NONE, 1), 2);
        due("refused for its kind, which is the latest still", x.offer(0, 5, NONE, 1), 2);
        due("another kind", x.offer(0, 1, NONE, 1), 0);
        due("kind 0 is not the latest now", x.offer(0, 5, NONE, 1), 0);
    }

    @Sentence(promise = 5, says = "the latest offer of this pupil in this term")
    static void firstOfferOfATerm() {
        ExcuseTariffs x = easySchool();
        due("first term", x.offer(0, 0, NONE, 1), 0);
        due("again", x.offer(0, 0, NONE, 1), 2);
        x.endTerm();
        due("second term", x.offer(0, 0, NONE, 1), 0);
        due("again", x.offer(0, 0, NONE, 1), 2);
    }

    @Sentence(promise = 5, says = "3 the witness has the credit 0")
    static void creditOfZeroAndOne() {
        ExcuseTariffs x = easySchool();
        standBy(x, 0, 4);
        due("credit 1", x.pupil(0, 0), 1);
        due("stands by", x.offer(9, 0, 0, 1), 0);
        due("credit 0", x.pupil(0, 0), 0);
        due("does not", x.offer(8, 0, 0, 1), 3);
        due("without a witness", x.offer(7, 0, NONE, 1), 0);
        due("a classmate of the pupil without credit", x.offer(1, 1, 0, 1), 3);
        due("a pupil may have no credit itself", x.offer(0, 0, 5, 1), 0);
    }

    @Sentence(promise = 5, says = "4 the weight is below NEEDS")
    static void justEnoughWeight() {
        ExcuseTariffs x = school(40, 39, 41);
        due("40 of 40", x.offer(0, 0, NONE, 1), 0);
        due("39 of 40", x.offer(2, 1, NONE, 1), 4);
        due("41 of 40 less 0", x.why(4, 2, NONE, 9), 0);
        due("41 of 40 less 1", x.why(4, 2, NONE, 19), 0);
        due("41 of 40 less 2", x.why(4, 2, NONE, 20), 4);
    }

    @Sentence(promise = 5, says = "4 the weight is below NEEDS")
    static void leastAndMostNeeds() {
        ExcuseTariffs x = school(99, 98, 1);
        x.set(NEEDS, 99);
        due("99 of 99", x.why(0, 0, NONE, 9), 0);
        due("98 of 99", x.why(0, 0, NONE, 10), 4);
        due("98 of 99", x.why(0, 1, NONE, 1), 4);
        due("98 and a witness", x.why(0, 1, 2, 1), 0);
        x.set(NEEDS, 1);
        due("1 of 1", x.why(0, 2, NONE, 9), 0);
        due("0 of 1", x.why(0, 2, NONE, 10), 4);
        due("-8 of 1", x.why(0, 2, NONE, 99), 4);
    }

    @Sentence(promise = 5, says = "The offer is refused for the first of these reasons that applies")
    static void reasonsInTheirOrder() {
        ExcuseTariffs x = school(99, 1, 99, 99, 99, 1);
        x.set(WEARS, 0);
        x.set(LIMIT, 1);
        standBy(x, 9, 5);
        due("credit 0", x.pupil(9, 0), 0);
        x.worth(0, 1);
        due("1 before 2, 3 and 4", x.offer(0, 0, 9, 99), 1);
        due("1 before 2 and 3", x.why(0, 0, 9, 1), 1);
        due("2 before 3 and 4", x.offer(0, 5, 9, 99), 2);
        x.offer(0, 2, NONE, 1);
        due("1 before 3 and 4", x.offer(0, 0, 9, 1), 1);
        due("3 before 4", x.offer(0, 1, 9, 99), 3);
        due("1 before 4", x.offer(0, 0, NONE, 1), 1);
        due("4 alone", x.offer(0, 1, NONE, 99), 4);
        due("2 before 4", x.offer(0, 1, NONE, 99), 2);
        x.offer(0, 3, NONE, 1);
        x.set(LIMIT, 2);
        due("2 before 3", x.offer(0, 3, 9, 1), 2);
    }

    // ---- promise 5: what an offer brings

    @Sentence(promise = 5, says = "a use of the excuse is counted for the pupil, the class and the school")
    static void usesOfAStamp() {
        ExcuseTariffs x = school(99, 99, 99, 99, 99, 99, 99, 99, 99, 99, 99, 99);
        due("pupil 9, excuse 11", x.offer(9, 11, NONE, 1), 0);
        due("uses of the pupil", x.pupil(9, 5), 1);
        due("uses of the classmate", x.pupil(8, 5), 0);
        due("who", x.excuse(11, 4), 512);
        due("uses of the school", x.excuse(11, 2), 1);
        due("in the class", x.novelty(8, 11), 50);
        due("in the school", x.novelty(7, 11), 75);
        due("another excuse", x.novelty(9, 10), 100);
        due("uses of another excuse", x.excuse(10, 2), 0);
    }

    @Sentence(promise = 5, says = "the witness, if there is one, has 1 credit less")
    static void creditAfterAStamp() {
        ExcuseTariffs x = easySchool();
        for (int use = 1; use <= 5; use++) {
            due("a stamp", x.offer(use, 0, 0, 1), 0);
            due("credit of the witness", x.pupil(0, 0), 5 - use);
            due("credit of the pupil", x.pupil(use, 0), 5);
        }
        due("a stamp without a witness", x.offer(9, 0, NONE, 1), 0);
        due("all credits", x.count(15), 45);
    }

    @Sentence(promise = 5, says = "the grudge of the master becomes 1 more, if the minutes are above 30 (9 at most).")
    static void grudgeAfterThirtyMinutes() {
        ExcuseTariffs x = easySchool();
        due("30 minutes", x.offer(0, 0, NONE, 30), 0);
        due("grudge", x.pupil(0, 6), 0);
        due("31 minutes", x.offer(0, 1, NONE, 31), 0);
        due("grudge", x.pupil(0, 6), 1);
        due("99 minutes", x.offer(0, 0, NONE, 99), 0);
        due("grudge", x.pupil(0, 6), 2);
        due("other masters", x.count(16), 2);
    }

    @Sentence(promise = 5, says = "if the minutes are above 30 (9 at most).")
    static void grudgeOfAStampHasAnEnd() {
        ExcuseTariffs x = easySchool();
        anger(x, 8, 8);
        due("8 grudges", x.pupil(8, 6), 8);
        due("a stamp", x.offer(8, 1, NONE, 31), 0);
        due("9 grudges", x.pupil(8, 6), 9);
        due("a stamp", x.offer(8, 0, NONE, 31), 0);
        due("9 at most", x.pupil(8, 6), 9);
        due("a stamp of the classmate", x.offer(9, 0, NONE, 99), 0);
        due("9 at most", x.pupil(9, 6), 9);
        due("all grudges", x.count(16), 9);
    }

    @Sentence(promise = 5, says = "the pupil's fine becomes FINE * minutes more")
    static void leastAndMostFine() {
        ExcuseTariffs x = school(1, 1);
        x.set(FINE, 1);
        due("refused", x.offer(9, 0, NONE, 1), 4);
        due("1 * 1", x.pupil(9, 1), 1);
        x.set(FINE, 60);
        due("refused", x.offer(9, 1, NONE, 99), 4);
        due("60 * 99 more", x.pupil(9, 1), 5941);
        due("the classmate", x.pupil(8, 1), 0);
        due("all fines", x.count(11), 5941);
        x.worth(0, 99);
        x.set(FINE, 5);
        due("a stamp", x.offer(0, 0, NONE, 99), 0);
        due("has no fine", x.pupil(0, 1), 0);
    }

    @Sentence(promise = 5, says = "A refused offer: the pupil's fine becomes FINE * minutes more")
    static void fineForEachReason() {
        ExcuseTariffs x = school(99, 99, 1);
        x.set(WEARS, 0);
        x.set(LIMIT, 1);
        standBy(x, 9, 5);
        due("reason 1", x.offer(0, 0, NONE, 1), 1);
        due("fine", x.pupil(0, 1), 5);
        due("kind 2", x.offer(1, 2, NONE, 2), 4);
        due("fine", x.pupil(1, 1), 10);
        due("reason 2", x.offer(1, 2, NONE, 3), 2);
        due("fine", x.pupil(1, 1), 25);
        due("reason 3", x.offer(8, 1, 9, 4), 3);
        due("fine", x.pupil(8, 1), 20);
        due("all fines", x.count(13), 50);
    }

    @Sentence(promise = 5, says = "the grudge of the master becomes 1 more (9 at most); a witness")
    static void grudgeOfARefusal() {
        ExcuseTariffs x = school(99, 1);
        x.offer(4, 0, NONE, 1);
        for (int refused = 1; refused <= 11; refused++) {
            due("refused", x.offer(4, 0, NONE, refused % 2 == 0 ? 1 : 99), 2);
            due("grudge", x.pupil(5, 6), Math.min(9, refused));
        }
        due("all grudges", x.count(16), 9);
        due("reason 4, 30 minutes", x.offer(6, 1, NONE, 30), 4);
        due("grudge", x.pupil(6, 6), 1);
        x.set(LIMIT, 1);
        due("reason 1, 1 minute", x.offer(4, 0, NONE, 1), 1);
        due("9 at most", x.pupil(4, 6), 9);
    }

    @Sentence(promise = 5, says = "the grudge of the master becomes 1 more (9 at most)")
    static void grudgeForEachReason() {
        ExcuseTariffs x = school(99, 99, 1);
        x.set(WEARS, 0);
        x.set(LIMIT, 1);
        standBy(x, 9, 5);
        due("no grudge yet", x.count(16), 0);
        due("reason 1", x.offer(0, 0, NONE, 1), 1);
        due("grudge", x.pupil(0, 6), 1);
        due("reason 4", x.offer(2, 2, NONE, 1), 4);
        due("grudge", x.pupil(2, 6), 1);
        due("reason 2", x.offer(2, 2, NONE, 1), 2);
        due("grudge", x.pupil(2, 6), 2);
        due("reason 3", x.offer(8, 1, 9, 1), 3);
        due("grudge", x.pupil(8, 6), 1);
        due("all grudges", x.count(16), 4);
    }

    @Sentence(promise = 5, says = "a witness, if there is one, has 2 credits less (0 at least), if the reason is 4.")
    static void creditAfterAWeightTooLight() {
        ExcuseTariffs x = school(1);
        int[] credits = {3, 1, 0};
        for (int p = 0; p < 3; p++) {
            due("too light", x.offer(p, 0, 9, 1), 4);
            due("credit", x.pupil(9, 0), credits[p]);
        }
        due("no witness", x.offer(4, 0, NONE, 1), 4);
        due("all credits", x.count(15), 45);
        ExcuseTariffs y = easySchool();
        standBy(y, 0, 3);
        y.worth(1, 1);
        due("credit 2", y.pupil(0, 0), 2);
        due("too light", y.offer(9, 1, 0, 1), 4);
        due("credit 0", y.pupil(0, 0), 0);
    }

    @Sentence(promise = 5, says = "if the reason is 4.")
    static void creditStaysForOtherReasons() {
        ExcuseTariffs x = easySchool();
        x.set(LIMIT, 1);
        x.offer(0, 0, NONE, 1);
        due("reason 1", x.offer(0, 0, 9, 1), 1);
        due("credit", x.pupil(9, 0), 5);
        x.set(LIMIT, 2);
        due("reason 2", x.offer(0, 0, 9, 1), 2);
        due("credit", x.pupil(9, 0), 5);
        ExcuseTariffs y = easySchool();
        standBy(y, 9, 5);
        due("reason 3", y.offer(6, 0, 9, 1), 3);
        due("credit", y.pupil(9, 0), 0);
        due("all credits", y.count(15), 45);
    }

    @Sentence(promise = 5, says = "Both: the kind of the excuse is the latest that the pupil offered.")
    static void latestKindOfBoth() {
        ExcuseTariffs x = school(99, 1, 99, 99, 99);
        due("a stamp", x.offer(0, 4, NONE, 1), 0);
        due("kind", x.pupil(0, 4), 4);
        due("refused", x.offer(0, 1, NONE, 1), 4);
        due("kind", x.pupil(0, 4), 1);
        due("a stamp", x.offer(0, 0, NONE, 1), 0);
        due("kind", x.pupil(0, 4), 0);
        due("the classmate", x.pupil(1, 4), NONE);
    }

    @Sentence(promise = 5, says = "Both: the kind of the excuse is the latest that the pupil offered.")
    static void latestKindForEachReason() {
        ExcuseTariffs x = school(99, 99, 1, 99, 99);
        x.set(WEARS, 0);
        x.set(LIMIT, 1);
        standBy(x, 9, 5);
        due("a stamp", x.offer(0, 1, NONE, 1), 0);
        due("reason 1", x.offer(0, 0, NONE, 1), 1);
        due("kind 0", x.pupil(0, 4), 0);
        due("reason 3", x.offer(0, 3, 9, 1), 3);
        due("kind 3", x.pupil(0, 4), 3);
        due("reason 2", x.offer(0, 3, NONE, 1), 2);
        due("kind 3", x.pupil(0, 4), 3);
        due("reason 4", x.offer(0, 2, NONE, 1), 4);
        due("kind 2", x.pupil(0, 4), 2);
        due("refused offers", x.pupil(0, 3), 4);
        due("stamps", x.pupil(0, 2), 2);
    }

    @Sentence(promise = 5, says = "An object is used for at most 512 calls after it has been made")
    static void fiveHundredDearCalls() {
        ExcuseTariffs x = new ExcuseTariffs();
        x.add(0, 1);
        x.set(FINE, 60);
        due("too light", x.offer(0, 0, NONE, 99), 4);
        for (int call = 4; call < 509; call++) {
            due("the same kind", x.offer(0, 0, NONE, 99), 2);
        }
        due("fine", x.pupil(0, 1), 506 * 5940);
        due("refused", x.pupil(0, 3), 506);
        due("fines owed or paid", x.count(13), 506 * 5940);
        due("the last call", x.weight(0, 0, NONE, 99), 1000 + 1 - 36 - 9);
    }

    // ---- promise 6

    @Sentence(promise = 6, says = "- `pence`: 1 to 9999")
    static void rangeOfPence() {
        ExcuseTariffs x = school(1);
        x.set(FINE, 60);
        x.offer(0, 0, NONE, 99);
        x.offer(0, 0, NONE, 99);
        for (int pence : new int[] {MIN, -9999, NONE, -1, 0, 10000, 11880, MAX}) {
            due("pence " + pence, x.pay(0, pence), BAD_VALUE);
        }
        due("the fine", x.pupil(0, 1), 11880);
        due("pence 1", x.pay(0, 1), 11879);
        due("pence 9999", x.pay(0, 9999), 1880);
        due("paid", x.pupil(0, 7), 10000);
    }

    @Sentence(promise = 6, says = "Returns what the fine is then; NO_SUCH if there is no such pupil")
    static void payOfNoPupil() {
        ExcuseTariffs x = school(1);
        for (int p = 0; p < 10; p++) {
            x.offer(p, 0, NONE, 1);
        }
        for (int pupil : NO_PUPILS) {
            due("pupil " + pupil, x.pay(pupil, 1), NO_SUCH);
        }
        due("pupil 0", x.pay(0, 2), 3);
        due("pupil 9", x.pay(9, 1), 4);
        due("all fines", x.count(11), 47);
    }

    @Sentence(promise = 6, says = "NOT_POSSIBLE if the fine is less than that")
    static void payAllAndMore() {
        ExcuseTariffs x = school(1);
        due("no fine", x.pay(3, 1), NOT_POSSIBLE);
        x.offer(3, 0, NONE, 20);
        due("one more than the fine", x.pay(3, 101), NOT_POSSIBLE);
        due("the most pence", x.pay(3, 9999), NOT_POSSIBLE);
        due("the classmate owes nothing", x.pay(2, 1), NOT_POSSIBLE);
        due("unchanged", x.pupil(3, 1), 100);
        due("nothing paid", x.pupil(3, 7), 0);
        due("all but one", x.pay(3, 99), 1);
        due("two of one", x.pay(3, 2), NOT_POSSIBLE);
        due("the last one", x.pay(3, 1), 0);
        due("nothing is left", x.pay(3, 1), NOT_POSSIBLE);
        due("paid", x.pupil(3, 7), 100);
    }

    @Sentence(promise = 6, says = "NO_SUCH if there is no such pupil; BAD_VALUE if pence is out of range; NOT_POSSIBLE if")
    static void errorsOfPayInTheirOrder() {
        ExcuseTariffs x = new ExcuseTariffs();
        due("pupil and pence", x.pay(10, 0), NO_SUCH);
        due("pupil and pence", x.pay(-1, 10000), NO_SUCH);
        due("pupil, who owes nothing", x.pay(10, 1), NO_SUCH);
        due("pence above the range and the fine", x.pay(0, 10000), BAD_VALUE);
        due("pence 0 of no fine", x.pay(0, 0), BAD_VALUE);
        due("the fine alone", x.pay(0, 9999), NOT_POSSIBLE);
    }

    // ---- promise 11

    @Sentence(promise = 11, says = "Returns the novelty, 0 to 100")
    static void leastAndMostNovelty() {
        ExcuseTariffs x = school(99, 99);
        x.set(WEARS, 50);
        due("new", x.novelty(0, 0), 100);
        x.offer(0, 0, NONE, 1);
        due("100 less 50 twice", x.novelty(0, 0), 0);
        due("100 less 50", x.novelty(9, 0), 50);
        due("the other excuse", x.novelty(0, 1), 100);
    }

    @Sentence(promise = 11, says = "and less WEARS once more for each use of it by the class of the pupil, 0 at least.")
    static void noveltyIsNotBelowZero() {
        ExcuseTariffs x = school(99);
        x.set(NEEDS, 1);
        for (int p = 0; p < 8; p += 2) {
            due("a stamp", x.offer(p, 0, NONE, 1), 0);
        }
        due("four uses at 25, none in the class", x.novelty(9, 0), 0);
        due("four uses, one in the class: -25", x.novelty(0, 0), 0);
        x.set(WEARS, 24);
        due("four uses at 24", x.novelty(9, 0), 4);
        due("four uses at 24 and one", x.novelty(1, 0), 0);
        x.set(WEARS, 20);
        due("four uses at 20 and one", x.novelty(1, 0), 0);
        x.set(WEARS, 19);
        due("four uses at 19 and one", x.novelty(1, 0), 5);
        x.set(WEARS, 50);
        due("-100", x.novelty(9, 0), 0);
        x.set(WEARS, 0);
        due("nothing wears", x.novelty(0, 0), 100);
        due("a weight of no novelty is not below 0 for that", x.weight(9, 0, NONE, 1), 1099);
    }

    @Sentence(promise = 11, says = "NO_SUCH if there is no such pupil or excuse")
    static void noveltyOfNothing() {
        ExcuseTariffs x = new ExcuseTariffs();
        due("empty list", x.novelty(0, 0), NO_SUCH);
        x.add(0, 99);
        for (int pupil : NO_PUPILS) {
            due("pupil " + pupil, x.novelty(pupil, 0), NO_SUCH);
        }
        for (int excuse : new int[] {MIN, NONE, -1, 1, 11, 12, MAX}) {
            due("excuse " + excuse, x.novelty(0, excuse), NO_SUCH);
        }
        due("neither", x.novelty(10, 1), NO_SUCH);
        due("pupil 9, excuse 0", x.novelty(9, 0), 100);
    }

    // ---- promise 12

    @Sentence(promise = 12, says = "Returns 0 if it would get a stamp, otherwise the reason, 1 to 4")
    static void whyChangesNothing() {
        ExcuseTariffs x = school(99, 1);
        x.set(LIMIT, 1);
        x.offer(0, 0, 9, 1);
        for (int times = 0; times < 3; times++) {
            due("reason 1", x.why(0, 0, 9, 99), 1);
            due("reason 4", x.why(0, 1, 9, 99), 4);
            due("a stamp", x.why(4, 0, 9, 99), 0);
        }
        x.set(LIMIT, 9);
        due("reason 2", x.why(0, 0, 9, 99), 2);
        due("credit", x.pupil(9, 0), 4);
        due("fines", x.count(11), 0);
        due("grudges", x.count(16), 0);
        due("stamps", x.count(6), 1);
        due("refused", x.count(7) + x.count(8) + x.count(10), 0);
        due("latest kind", x.pupil(0, 4), 0);
        due("changes", x.count(19), 5);
    }

    @Sentence(promise = 12, says = "Returns 0 if it would get a stamp, otherwise the reason, 1 to 4")
    static void whyOfAWitnessWithoutCredit() {
        ExcuseTariffs x = easySchool();
        standBy(x, 0, 4);
        due("credit 1", x.why(9, 0, 0, 1), 0);
        due("once more", x.why(9, 0, 0, 1), 0);
        x.offer(9, 0, 0, 1);
        due("credit 0", x.why(8, 0, 0, 1), 3);
    }

    @Sentence(promise = 12, says = "NO_SUCH and BAD_VALUE as offer()")
    static void errorsOfWhy() {
        noSuchPupil(WHY);
        noSuchExcuse(WHY);
        witnessIsThePupil(WHY);
        noSuchComesFirst(WHY);
    }

    @Sentence(promise = 12, says = "- `witness`: another pupil, or NONE")
    static void whyOfNoWitness() {
        noSuchWitness(WHY);
    }

    @Sentence(promise = 12, says = "- `minutes`: 1 to 99")
    static void whyOfNoMinutes() {
        minutesOutOfRange(WHY);
    }

    // ---- promise 13

    @Sentence(promise = 13, says = "It can be below 0.")
    static void weightBelowZero() {
        ExcuseTariffs x = school(99, 1);
        x.set(WEARS, 50);
        x.set(GRUDGE, 20);
        x.offer(0, 0, NONE, 1);
        anger(x, 0, 9);
        due("0 less 9 times 20 less 9", x.weight(0, 0, NONE, 99), 1000 - 189);
        due("and a classmate of credit 5", x.weight(0, 0, 1, 99), 1000 - 186);
        due("1 less 9 times 20", x.weight(1, 1, NONE, 9), 1000 - 179);
        x.set(GRUDGE, 0);
        due("exactly 0", x.weight(0, 0, NONE, 9), 1000);
        due("one below", x.weight(0, 0, NONE, 10), 999);
    }

    @Sentence(promise = 13, says = "Returns 1000 and the weight, together")
    static void greatestWeight() {
        ExcuseTariffs x = school(99);
        x.endTerm();
        x.endTerm();
        due("without a witness", x.weight(0, 0, NONE, 1), 1099);
        due("a witness of credit 9", x.weight(0, 0, 2, 1), 1108);
    }

    @Sentence(promise = 13, says = "Divisions are rounded down.")
    static void weightIsRoundedDown() {
        ExcuseTariffs x = school(99, 1, 3, 4);
        x.offer(0, 0, NONE, 1);
        x.set(WEARS, 1);
        due("99 * 99 / 100", x.weight(2, 0, NONE, 1), 1098);
        due("99 * 98 / 100", x.weight(1, 0, NONE, 1), 1097);
        x.set(WEARS, 25);
        due("99 * 75 / 100", x.weight(2, 0, NONE, 1), 1074);
        x.worth(0, 1);
        due("1 * 75 / 100", x.weight(2, 0, NONE, 1), 1000);
        x.worth(0, 4);
        due("4 * 75 / 100", x.weight(2, 0, NONE, 1), 1003);
        due("1 * 100 / 100", x.weight(2, 1, NONE, 1), 1001);
        int[] minutes = {1, 9, 10, 19, 20, 29, 89, 90, 99};
        int[] less = {0, 0, 1, 1, 2, 2, 8, 9, 9};
        for (int i = 0; i < minutes.length; i++) {
            due("minutes " + minutes[i], x.weight(2, 2, NONE, minutes[i]), 1003 - less[i]);
        }
    }

    @Sentence(promise = 13, says = "its credit more, or its credit less 2 (0 at least), if the witness is of the same class as")
    static void weightOfEachCredit() {
        ExcuseTariffs x = easySchool();
        x.endTerm();
        x.endTerm();
        for (int credit = 9; credit >= 1; credit--) {
            due("credit", x.pupil(0, 0), credit);
            due("another class", x.weight(2, 1, 0, 1), 1080 + credit);
            due("the same class", x.weight(1, 1, 0, 1), 1080 + Math.max(0, credit - 2));
            due("a stamp", x.offer(credit, 0, 0, 1), 0);
        }
        due("credit 0, another class", x.weight(2, 1, 0, 1), 1080);
        due("credit 0, the same class", x.weight(1, 1, 0, 1), 1080);
    }

    @Sentence(promise = 13, says = "if the witness is of the same class as the pupil")
    static void weightOfNeighbours() {
        ExcuseTariffs x = school(50);
        for (int p = 0; p < 10; p++) {
            for (int w = 0; w < 10; w++) {
                if (w != p) {
                    due("pupil " + p + ", witness " + w, x.weight(p, 0, w, 1), p / 2 == w / 2 ? 1053 : 1055);
                }
            }
        }
    }

    @Sentence(promise = 13, says = "NO_SUCH and BAD_VALUE as offer()")
    static void errorsOfWeight() {
        noSuchPupil(WEIGHT);
        noSuchExcuse(WEIGHT);
        witnessIsThePupil(WEIGHT);
        noSuchComesFirst(WEIGHT);
    }

    @Sentence(promise = 13, says = "- `witness`: another pupil, or NONE")
    static void weightOfNoWitness() {
        noSuchWitness(WEIGHT);
    }

    @Sentence(promise = 13, says = "- `minutes`: 1 to 99")
    static void weightOfNoMinutes() {
        minutesOutOfRange(WEIGHT);
    }
}
