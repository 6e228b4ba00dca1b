import java.util.function.Consumer;
import java.util.function.ToIntFunction;

/** The sentences of the document, from its first to its last, that name no boundary. */
final class OrdinaryDays extends Checks {

    // ---- what it is

    @Sentence(promise = 1, says = "Tariff of excuses at a mill school with novelty, use limits, witnesses and grudging stamps:"
            + " excuses in a list with kinds and worths, pupils who are late and offer one, novelty that wears off as an"
            + " excuse is used by the school, by a class or by a pupil, limits of use in a term, witnesses who stand by an"
            + " excuse and lose their credit, masters with grudges, stamps that are given or refused, fines for what is"
            + " not excused, terms that begin anew, why an excuse does not hold, the best excuse of a pupil, the best"
            + " witness, accounts of fines, what a day would bring, excuses that are worn out, lists that are read from"
            + " texts, undo, and saved states.")
    static void aTermAndADay() {
        ExcuseTariffs x = new ExcuseTariffs();
        due("fog", x.add(0, 90), 0);
        due("a sick aunt", x.add(1, 70), 1);
        due("the best excuse", x.bestExcuse(0, 20), 0);
        due("the best witness", x.bestWitness(0, 0, 20), 2);
        due("what the day would bring", x.weight(0, 0, 2, 20), 1000 + 90 - 2 + 5);
        due("a stamp", x.offer(0, 0, 2, 20), 0);
        due("novelty for the pupil", x.novelty(0, 0), 50);
        due("novelty for the class", x.novelty(1, 0), 50);
        due("novelty for the school", x.novelty(2, 0), 75);
        due("the witness lost credit", x.pupil(2, 0), 4);
        due("why it does not hold now", x.why(0, 0, NONE, 20), 2);
        due("refused", x.offer(0, 0, NONE, 20), 2);
        due("a fine", x.pupil(0, 1), 100);
        due("a grudge", x.pupil(1, 6), 1);
        due("another excuse is the best now", x.bestExcuse(0, 20), 1);
        due("most minutes", x.mostMinutes(0, 1), 99);
        due("paid", x.pay(0, 60), 40);
        due("owed", x.count(11), 40);
        due("owed or paid", x.count(13), 100);
        x.set(WEARS, 50);
        due("worn out for one class", x.count(17), 0);
        due("a stamp for a weight of 45", x.offer(2, 0, NONE, 5), 0);
        due("worn out for all", x.count(17), 1);
        x.set(LIMIT, 1);
        due("limit", x.why(2, 0, NONE, 5), 1);
        due("stamps of the term", x.endTerm(), 2);
        due("novelty of a new term", x.novelty(0, 0), 100);
        due("half a grudge", x.pupil(0, 6), 0);
        due("the fine stays", x.pupil(0, 1), 40);
        due("save", x.save(0), 1);
        putText(x, "4bm15w5,5bm7");
        due("read", x.read(), 1);
        due("a list that was read", x.pupil(5, 1), 35);
        due("undo", x.undo(), 5);
        due("no stamp more", x.count(6), 2);
        due("terms of the saved state", x.restore(0), 1);
        due("nothing used", x.pupil(4, 5), 0);
    }

    @Sentence(promise = 21, says = "what later calls answer is free.")
    static void laterCallsOnlyHaveToEnd() {
        ExcuseTariffs x = new ExcuseTariffs();
        for (int round = 0; round < 400; round++) {
            x.set(round % 6, round % 100);
            x.add(round % 6, round % 101);
            x.worth(round % 13, 99 - round % 50);
            x.offer(round % 11, round % 13, round % 3 == 0 ? NONE : (round + 1) % 10, round % 100);
            x.pay(round % 10, 1 + round % 9999);
            putText(x, "0am99w1,9lm1,5cm30");
            x.read();
            x.put(Long.MIN_VALUE >> round % 64);
            x.why(round % 10, round % 12, NONE, 99);
            x.bestExcuse(round % 10, 1);
            x.bestWitness(round % 10, round % 12, 1);
            x.mostMinutes(round % 10, round % 12);
            x.count(round % 20);
            x.save(round % 2);
            x.restore(round % 3);
            if (round % 7 == 0) {
                x.undo();
                x.endTerm();
                x.wipe();
            }
            x.fault();
        }
    }

    // ---- terms: conventions

    @Sentence(promise = 5, says = "CONVENTIONS. A method that fails returns one of the error codes NO_SUCH (-1), BAD_VALUE (-2),"
            + " BAD_TEXT (-3), TOO_MANY (-4) and NOT_POSSIBLE (-5); it names its errors in the order in which they are"
            + " checked, and the first one that applies is returned.")
    static void theFirstErrorThatApplies() {
        ExcuseTariffs x = new ExcuseTariffs();
        due("undo", x.undo(), NOT_POSSIBLE);
        x.add(0, 60);
        due("set", x.set(5, 100), BAD_VALUE);
        due("worth", x.worth(1, 0), NO_SUCH);
        due("worth", x.worth(0, 0), BAD_VALUE);
        due("offer", x.offer(10, 1, 10, 0), NO_SUCH);
        due("offer", x.offer(0, 0, 0, 0), BAD_VALUE);
        due("pay", x.pay(10, 0), NO_SUCH);
        due("pay", x.pay(0, 10000), BAD_VALUE);
        due("pay", x.pay(0, 9999), NOT_POSSIBLE);
        due("read", x.read(), BAD_TEXT);
        due("excuse", x.excuse(1, 5), NO_SUCH);
        due("excuse", x.excuse(0, 5), BAD_VALUE);
        due("pupil", x.pupil(10, 8), NO_SUCH);
        due("pupil", x.pupil(0, 8), BAD_VALUE);
        due("novelty", x.novelty(10, 1), NO_SUCH);
        due("why", x.why(10, 1, 10, 0), NO_SUCH);
        due("why", x.why(0, 0, 0, 0), BAD_VALUE);
        due("weight", x.weight(10, 1, 10, 0), NO_SUCH);
        due("weight", x.weight(0, 0, 0, 0), BAD_VALUE);
        due("count", x.count(20), BAD_VALUE);
        due("bestExcuse", x.bestExcuse(10, 0), NO_SUCH);
        due("bestExcuse", x.bestExcuse(0, 0), BAD_VALUE);
        due("bestWitness", x.bestWitness(10, 1, 0), NO_SUCH);
        due("bestWitness", x.bestWitness(0, 0, 0), BAD_VALUE);
        due("mostMinutes", x.mostMinutes(10, 1), NO_SUCH);
        due("save", x.save(2), BAD_VALUE);
        due("restore", x.restore(2), BAD_VALUE);
        due("restore", x.restore(1), NOT_POSSIBLE);
        for (int e = 1; e < 12; e++) {
            x.add(0, 60);
        }
        due("add", x.add(5, 0), BAD_VALUE);
        due("add", x.add(4, 1), TOO_MANY);
        putText(x, "0".repeat(60));
        due("put", x.put(' '), BAD_VALUE);
        due("put", x.put('0'), TOO_MANY);
    }

    @Sentence(promise = 15, says = "NONE (-6) is not an error; it is returned only if no error applies.")
    static void noneOnlyIfNoErrorApplies() {
        ExcuseTariffs x = new ExcuseTariffs();
        due("no kind", x.pupil(0, 4), NONE);
        due("the kind of no pupil", x.pupil(10, 4), NO_SUCH);
        due("no excuse", x.bestExcuse(0, 1), NONE);
        due("no excuse of no pupil", x.bestExcuse(-1, 1), NO_SUCH);
        due("no excuse for no minutes", x.bestExcuse(0, 0), BAD_VALUE);
        x.add(0, 1);
        x.add(1, 1);
        due("no minutes", x.mostMinutes(0, 0), NONE);
        due("no minutes of no pupil", x.mostMinutes(10, 0), NO_SUCH);
        due("no minutes of no excuse", x.mostMinutes(0, 2), NO_SUCH);
        for (int i = 0; i < 27; i++) {
            due("too light", x.offer(0, i % 2, 1 + i / 3, 1), 4);
        }
        due("no witness", x.bestWitness(0, 0, 1), NONE);
        due("no witness of no pupil", x.bestWitness(10, 0, 1), NO_SUCH);
        due("no witness of no excuse", x.bestWitness(0, 2, 1), NO_SUCH);
        due("no witness for no minutes", x.bestWitness(0, 0, 100), BAD_VALUE);
        due("an empty pad", x.fault(), 0);
        putText(x, "0am1");
        due("no fault", x.fault(), NONE);
        due("an offer without a witness", x.why(0, 1, NONE, 1), 4);
    }

    // ---- terms: settings, excuses, pupils, masters

    @Sentence(promise = 2, says = "(In parentheses: range; first value.)")
    static void rangesAndFirstValues() {
        ExcuseTariffs x = new ExcuseTariffs();
        int[] least = {1, 0, 1, 1, 0};
        int[] most = {99, 50, 9, 60, 20};
        int[] first = {40, 25, 3, 5, 4};
        for (int setting = 0; setting < 5; setting++) {
            due("below", x.set(setting, least[setting] - 1), BAD_VALUE);
            due("above", x.set(setting, most[setting] + 1), BAD_VALUE);
            due("first value of " + setting, x.set(setting, most[setting]), first[setting]);
            due("most of " + setting, x.set(setting, least[setting]), most[setting]);
            due("least of " + setting, x.count(setting), least[setting]);
        }
    }

    @Sentence(promise = 3, says = "numbered in the order in which they came into the list, each with a kind, 0 to 4, and a"
            + " worth, 1 to 99.")
    static void kindsAndWorths() {
        ExcuseTariffs x = new ExcuseTariffs();
        int[] kinds = {4, 0, 3, 1, 2, 2, 1, 3, 0, 4, 0, 1};
        int[] worths = {1, 99, 50, 2, 98, 40, 41, 39, 1, 99, 7, 70};
        for (int e = 0; e < 12; e++) {
            due("number", x.add(kinds[e], worths[e]), e);
        }
        for (int e = 0; e < 12; e++) {
            due("kind of " + e, x.excuse(e, 0), kinds[e]);
            due("worth of " + e, x.excuse(e, 1), worths[e]);
        }
    }

    @Sentence(promise = 10, says = "the pupil p is of the class p / 2, whose master has the same number (0 to 4), and who has a"
            + " grudge, 0 to 9 (0 at first).")
    static void aMasterForEachClass() {
        ExcuseTariffs x = school(1);
        for (int p = 0; p < 10; p++) {
            due("no grudge", x.pupil(p, 6), 0);
        }
        for (int master = 0; master < 5; master++) {
            for (int i = 0; i < 2 * master; i++) {
                x.offer(2 * master + i % 2, 0, NONE, 1);
            }
        }
        for (int p = 0; p < 10; p++) {
            due("the grudge of the master of " + p, x.pupil(p, 6), p / 2 * 2);
        }
        due("all grudges", x.count(16), 20);
        x.offer(9, 0, NONE, 1);
        x.offer(8, 0, NONE, 1);
        due("the greatest grudge", x.pupil(9, 6), 9);
    }

    @Sentence(promise = 9, says = "The uses of an excuse in this term are counted: those of each pupil, those of each class, and"
            + " those of the school.")
    static void usesOfPupilsClassesAndSchool() {
        ExcuseTariffs x = easySchool();
        int[] pupils = {0, 0, 0, 1, 7};
        int[] excuses = {0, 1, 0, 0, 0};
        for (int i = 0; i < 5; i++) {
            due("a stamp", x.offer(pupils[i], excuses[i], NONE, 1), 0);
        }
        due("the school", x.excuse(0, 2), 4);
        due("the school, another excuse", x.excuse(1, 2), 1);
        due("pupil 0", x.pupil(0, 5), 3);
        due("pupil 1", x.pupil(1, 5), 1);
        due("who used it", x.excuse(0, 4), 1 | 2 | 128);
        x.set(WEARS, 10);
        due("class 0", x.novelty(0, 0), 100 - 40 - 30);
        due("class 0, the other pupil", x.novelty(1, 0), 100 - 40 - 30);
        due("class 3", x.novelty(6, 0), 100 - 40 - 10);
        due("a class without uses", x.novelty(2, 0), 100 - 40);
        due("another excuse", x.novelty(0, 1), 100 - 10 - 10);
        x.set(LIMIT, 2);
        due("two uses of its own", x.why(0, 0, NONE, 1), 1);
        due("one use of its own, and the same kind", x.why(1, 0, NONE, 1), 2);
        x.set(LIMIT, 1);
        due("one use of its own", x.why(1, 0, NONE, 1), 1);
        due("none of its own", x.why(6, 0, NONE, 1), 0);
    }

    // ---- terms: offering

    @Sentence(promise = 5, says = "A pupil who is late by some minutes offers an excuse, with a witness (another pupil) or"
            + " without one.")
    static void everyPupilWithEveryWitness() {
        for (int p = 0; p < 10; p++) {
            ExcuseTariffs x = easySchool();
            due("alone", x.offer(p, 0, NONE, 30), 0);
            int excuse = 1;
            for (int w = 0; w < 10; w++) {
                if (w != p) {
                    due(p + " with " + w, x.offer(p, excuse, w, 30), 0);
                    due("credit of " + w, x.pupil(w, 0), 4);
                    excuse = 1 - excuse;
                }
            }
            due("with itself", x.offer(p, excuse, p, 30), BAD_VALUE);
            due("the same kind, alone", x.offer(p, 1 - excuse, NONE, 30), 2);
            due("stamps", x.pupil(p, 2), 10);
        }
    }

    @Sentence(promise = 11, says = "The novelty of an excuse for a pupil is 100 less WEARS for each use of it by the school in"
            + " this term, and less WEARS once more for each use of it by the class of the pupil, 0 at least.")
    static void noveltyForEachWear() {
        for (int wears = 0; wears <= 50; wears++) {
            ExcuseTariffs x = easySchool();
            due("a use of class 2", x.offer(4, 0, NONE, 1), 0);
            due("a use of class 2", x.offer(5, 0, NONE, 1), 0);
            due("a use of class 4", x.offer(9, 0, NONE, 1), 0);
            x.set(WEARS, wears);
            due("class 2", x.novelty(4, 0), Math.max(0, 100 - 5 * wears));
            due("class 2", x.novelty(5, 0), Math.max(0, 100 - 5 * wears));
            due("class 4", x.novelty(8, 0), Math.max(0, 100 - 4 * wears));
            due("class 0", x.novelty(0, 0), Math.max(0, 100 - 3 * wears));
            due("another excuse", x.novelty(4, 1), 100);
            x.endTerm();
            due("a new term", x.novelty(4, 0), 100);
        }
    }

    @Sentence(promise = 13, says = "The weight of an offer is the worth * novelty / 100, less GRUDGE times the grudge of the"
            + " pupil's master, less the minutes / 10; and, if there is a witness, its credit more, or its credit less 2 (0"
            + " at least), if the witness is of the same class as the pupil.")
    static void eachPartOfAWeight() {
        ExcuseTariffs x = school(97, 60);
        x.set(WEARS, 7);
        due("worth", x.weight(2, 0, NONE, 9), 1000 + 97);
        due("minutes", x.weight(2, 0, NONE, 10), 1000 + 97 - 1);
        due("many minutes", x.weight(2, 0, NONE, 99), 1000 + 97 - 9);
        due("a witness", x.weight(2, 0, 4, 99), 1000 + 97 - 9 + 5);
        due("a witness of the class", x.weight(2, 0, 3, 99), 1000 + 97 - 9 + 5 - 2);
        due("a stamp", x.offer(2, 0, 4, 31), 0);
        due("97 * 86 / 100 is 83.42, and a grudge of 1", x.weight(2, 0, NONE, 1), 1000 + 83 - 4);
        due("97 * 93 / 100 is 90.21, and no grudge", x.weight(4, 0, NONE, 1), 1000 + 90);
        due("a witness that lost a credit", x.weight(2, 0, 4, 1), 1000 + 83 - 4 + 4);
        due("the same one, for its class", x.weight(5, 0, 4, 1), 1000 + 90 + 4 - 2);
        x.set(GRUDGE, 20);
        due("a dear grudge", x.weight(3, 0, NONE, 1), 1000 + 83 - 20);
        x.worth(0, 1);
        due("1 * 86 / 100 is 0", x.weight(3, 0, NONE, 20), 1000 - 20 - 2);
    }

    @Sentence(promise = 5, says = "2 the latest offer of this pupil in this term (stamped or refused) was of an excuse of the"
            + " same kind; 3 the witness has the credit 0; 4 the weight is below NEEDS. Otherwise it gets a stamp.")
    static void otherExcusesOfTheSameKind() {
        ExcuseTariffs x = new ExcuseTariffs();
        x.add(3, 90);
        x.add(3, 91);
        x.add(2, 92);
        due("a first offer", x.offer(6, 0, NONE, 1), 0);
        due("another excuse of the kind", x.offer(6, 1, NONE, 1), 2);
        due("and once more", x.offer(6, 1, NONE, 1), 2);
        due("another pupil", x.offer(7, 1, NONE, 1), 0);
        due("another kind", x.offer(6, 2, NONE, 1), 0);
        due("the first kind again: 91 * 50 / 100 - 2 * 4 is 37", x.why(6, 1, NONE, 1), 4);
        due("with a witness: 42", x.offer(6, 1, 0, 1), 0);
        due("a term of its own", x.endTerm(), 4);
        due("the kind of last term", x.offer(6, 0, NONE, 1), 0);
    }

    @Sentence(promise = 5, says = "An offer with a stamp: a use of the excuse is counted for the pupil, the class and the school;"
            + " the witness, if there is one, has 1 credit less; the grudge of the master becomes 1 more, if the minutes"
            + " are above 30 (9 at most).")
    static void allThatAStampDoes() {
        ExcuseTariffs x = school(80, 80);
        due("a stamp", x.offer(4, 1, 9, 31), 0);
        due("the pupil", x.pupil(4, 5), 1);
        due("the class", x.novelty(5, 1), 50);
        due("the school", x.novelty(0, 1), 75);
        due("uses", x.excuse(1, 2), 1);
        due("uses in all terms", x.excuse(1, 3), 1);
        due("the other excuse", x.excuse(0, 2), 0);
        due("the witness", x.pupil(9, 0), 4);
        due("all credits", x.count(15), 49);
        due("the master", x.pupil(4, 6), 1);
        due("all masters", x.count(16), 1);
        due("stamps of the pupil", x.pupil(4, 2), 1);
        due("stamps", x.count(6), 1);
        due("no refusal", x.pupil(4, 3), 0);
        due("no fine", x.count(13), 0);
        due("its latest kind", x.pupil(4, 4), 1);
    }

    // ---- terms: terms, constants, and what the interface says

    @Sentence(promise = 7, says = "When a term ends, all uses are 0, nobody has offered anything, grudges become half of what they"
            + " were, and each pupil's credit becomes 2 more (9 at most); fines stay.")
    static void allThatTheEndOfATermDoes() {
        ExcuseTariffs x = school(80, 80);
        due("a stamp", x.offer(0, 0, 8, 1), 0);
        anger(x, 0, 5);
        due("stamps", x.endTerm(), 1);
        due("uses of the school", x.excuse(0, 2), 0);
        due("uses in all terms", x.excuse(0, 3), 1);
        due("uses of the pupil", x.pupil(0, 5), 0);
        due("novelty", x.novelty(1, 0), 100);
        due("latest kind", x.pupil(0, 4), NONE);
        due("grudge", x.pupil(0, 6), 2);
        due("credit", x.pupil(0, 0), 7);
        due("credit of the witness", x.pupil(8, 0), 6);
        due("fine", x.pupil(0, 1), 25);
        due("terms", x.count(14), 1);
        due("stamps of the next term", x.endTerm(), 0);
        due("credit at most", x.pupil(0, 0), 9);
        due("credit of the witness", x.pupil(8, 0), 8);
        due("grudge", x.pupil(0, 6), 1);
    }

    @Sentence(promise = 1, says = "The constants: `NO_SUCH = -1, BAD_VALUE = -2, BAD_TEXT = -3, TOO_MANY = -4, NOT_POSSIBLE = -5,"
            + " NONE = -6`: Error codes, and NONE: there is none.")
    static void errorCodes() {
        ExcuseTariffs x = new ExcuseTariffs();
        due("NO_SUCH", x.excuse(0, 0), ExcuseTariffs.NO_SUCH);
        due("BAD_VALUE", x.set(5, 1), ExcuseTariffs.BAD_VALUE);
        due("BAD_TEXT", x.read(), ExcuseTariffs.BAD_TEXT);
        due("NOT_POSSIBLE", x.undo(), ExcuseTariffs.NOT_POSSIBLE);
        due("NONE", x.pupil(0, 4), ExcuseTariffs.NONE);
        putText(x, "0".repeat(60));
        due("TOO_MANY", x.put('0'), ExcuseTariffs.TOO_MANY);
        x.add(0, 60);
        due("no witness", x.offer(0, 0, ExcuseTariffs.NONE, 1), 0);
    }

    @Sentence(promise = 2, says = "`NEEDS = 0, WEARS = 1, LIMIT = 2, FINE = 3, GRUDGE = 4`: Settings.")
    static void eachSettingByItsName() {
        ExcuseTariffs x = school(50, 50);
        due("NEEDS", x.set(ExcuseTariffs.NEEDS, 51), 40);
        due("below NEEDS", x.why(0, 0, NONE, 1), 4);
        due("WEARS", x.set(ExcuseTariffs.WEARS, 50), 25);
        due("LIMIT", x.set(ExcuseTariffs.LIMIT, 1), 3);
        due("FINE", x.set(ExcuseTariffs.FINE, 60), 5);
        due("GRUDGE", x.set(ExcuseTariffs.GRUDGE, 20), 4);
        due("refused", x.offer(0, 0, NONE, 2), 4);
        due("FINE", x.pupil(0, 1), 120);
        due("GRUDGE", x.weight(1, 0, NONE, 1), 1000 + 50 - 20);
        x.set(NEEDS, 50);
        due("not below NEEDS", x.offer(2, 0, NONE, 1), 0);
        due("WEARS", x.novelty(4, 0), 50);
        due("LIMIT", x.why(2, 0, NONE, 1), 1);
    }

    @Sentence(promise = 21, says = "Ahead of the calls `set`, `add`, `worth`, `offer`, `pay`, `endTerm`, `read` the interface says:"
            + " ---- changes.")
    static void sevenChanges() {
        ExcuseTariffs x = new ExcuseTariffs();
        x.set(NEEDS, 99);
        due("set", x.count(19), 1);
        x.add(0, 50);
        due("add", x.count(19), 2);
        x.worth(0, 51);
        due("worth", x.count(19), 3);
        x.offer(0, 0, NONE, 1);
        due("offer", x.count(19), 4);
        x.pay(0, 5);
        due("pay", x.count(19), 5);
        x.endTerm();
        due("endTerm", x.count(19), 6);
        x.undo();
        putText(x, "0am1");
        x.read();
        due("read", x.count(19), 6);
        due("undo of read", x.undo(), 5);
        due("undo of pay", x.undo(), 4);
    }

    @Sentence(promise = 21, says = "Ahead of the calls `excuse`, `pupil`, `novelty`, `why`, `weight`, `count` the interface says:"
            + " ---- what there is; nothing changes.")
    static void sixQuestions() {
        Consumer<ExcuseTariffs> before = OrdinaryDays::aDay;
        changesNothing("six questions", before, x -> {
            due("excuse", x.excuse(0, 2), 1);
            due("pupil", x.pupil(0, 1), 50);
            due("novelty", x.novelty(2, 0), 75);
            due("why", x.why(2, 1, 3, 1), 0);
            due("weight", x.weight(2, 1, 3, 1), 1000 + 80 + 3);
            return x.count(6);
        }, 1);
    }

    @Sentence(promise = 21, says = "Ahead of the calls `bestExcuse`, `bestWitness`, `mostMinutes` the interface says: ---- what"
            + " if; nothing changes.")
    static void threeQuestions() {
        Consumer<ExcuseTariffs> before = OrdinaryDays::aDay;
        changesNothing("three questions", before, x -> {
            due("bestExcuse", x.bestExcuse(2, 9), 1);
            due("bestWitness", x.bestWitness(2, 1, 9), 0);
            return x.mostMinutes(2, 1);
        }, 99);
    }

    @Sentence(promise = 21, says = "Ahead of the calls `put`, `wipe`, `fault` the interface says: ---- texts.")
    static void textsAreNoChanges() {
        Consumer<ExcuseTariffs> before = OrdinaryDays::aDay;
        Consumer<ExcuseTariffs> texts = before.andThen(x -> {
            due("wipe", x.wipe(), 3);
            due("put", x.put(packed("1bm")), 3);
            due("fault", x.fault(), 3);
        });
        same("texts", pictureAfter(texts), pictureAfter(before));
        same("texts and undo", pictureAfter(texts.andThen(x -> x.undo())), pictureAfter(before.andThen(x -> x.undo())));
    }

    @Sentence(promise = 21, says = "Ahead of the calls `undo`, `save`, `restore` the interface says: ---- undo, saving.")
    static void undoAndSavingBesideEachOther() {
        Consumer<ExcuseTariffs> before = OrdinaryDays::aDay;
        sameSchool("back and forth", pictureAfter(before.andThen(x -> {
            due("save", x.save(0), 0);
            due("undo", x.undo(), 4);
            due("restore", x.restore(0), 0);
            due("changes", x.count(19), 5);
            due("undo of restore", x.undo(), 4);
            due("restore", x.restore(0), 0);
        })), pictureAfter(before));
    }

    /** Two excuses, a stamp and a refusal, a payment, and a pad that ends too early. */
    private static void aDay(ExcuseTariffs x) {
        x.add(0, 80);
        x.add(1, 80);
        x.offer(0, 0, 9, 40);
        x.offer(0, 0, NONE, 20);
        x.pay(0, 50);
        putText(x, "0am");
    }

    // ---- the first lines of the promises

    @Sentence(promise = 1, says = "Creates a school without excuses, in its first term.")
    static void aSchoolOfItsOwn() {
        ExcuseTariffs x = new ExcuseTariffs();
        aDay(x);
        x.endTerm();
        ExcuseTariffs y = new ExcuseTariffs();
        due("excuses", y.count(5), 0);
        due("terms", y.count(14), 0);
        due("stamps", y.count(6), 0);
        due("excuses of the other one", x.count(5), 2);
    }

    @Sentence(promise = 2, says = "Changes a setting. This is a change.")
    static void setIsAChange() {
        for (int setting = 0; setting < 5; setting++) {
            int s = setting;
            int[] first = {40, 25, 3, 5, 4};
            isAChange(x -> x.set(s, 8), first[s]);
            ExcuseTariffs x = new ExcuseTariffs();
            x.set(s, 8);
            for (int other = 0; other < 5; other++) {
                due("setting " + other + " after set of " + s, x.count(other), other == s ? 8 : first[other]);
            }
        }
    }

    @Sentence(promise = 3, says = "Adds an excuse at the end of the list. This is a change.")
    static void addIsAChange() {
        isAChange(x -> x.add(4, 33), 2);
        ExcuseTariffs x = school(80, 70);
        due("number", x.add(4, 33), 2);
        due("excuses", x.count(5), 3);
        due("the first stays", x.excuse(0, 1), 80);
        due("the second stays", x.excuse(1, 1), 70);
        due("kind", x.excuse(2, 0), 4);
        due("worth", x.excuse(2, 1), 33);
        due("novelty", x.novelty(0, 2), 100);
        due("uses", x.excuse(2, 3), 0);
    }

    @Sentence(promise = 4, says = "Changes the worth of an excuse. This is a change.")
    static void worthIsAChange() {
        isAChange(x -> x.worth(1, 33), 80);
        ExcuseTariffs x = school(80, 70);
        due("previous", x.worth(1, 33), 70);
        due("worth", x.excuse(1, 1), 33);
        due("kind", x.excuse(1, 0), 1);
        due("weight", x.weight(0, 1, NONE, 1), 1033);
        due("the other excuse", x.weight(0, 0, NONE, 1), 1080);
    }

    @Sentence(promise = 5, says = "A pupil offers an excuse. This is a change.")
    static void offerIsAChange() {
        isAChange(x -> x.offer(2, 1, 8, 40), 0);
        isAChange(x -> x.offer(0, 0, 8, 40), 2);
        isAChange(x -> x.offer(1, 0, 8, 99), 4);
    }

    @Sentence(promise = 6, says = "A pupil pays. This is a change.")
    static void payIsAChange() {
        isAChange(x -> x.pay(0, 30), 20);
        ExcuseTariffs x = new ExcuseTariffs();
        aDay(x);
        due("the rest", x.pay(0, 50), 0);
        due("owed", x.pupil(0, 1), 0);
        due("paid", x.pupil(0, 7), 100);
        due("paid by the neighbour", x.pupil(1, 7), 0);
        due("no more to pay", x.pay(0, 1), NOT_POSSIBLE);
    }

    @Sentence(promise = 7, says = "Ends the term. This is a change.")
    static void endTermIsAChange() {
        isAChange(x -> x.endTerm(), 1);
    }

    @Sentence(promise = 9, says = "Returns something about an excuse.")
    static void everythingAboutAnExcuse() {
        ExcuseTariffs x = new ExcuseTariffs();
        aDay(x);
        x.endTerm();
        x.offer(9, 0, NONE, 1);
        x.offer(3, 1, NONE, 1);
        x.offer(9, 1, NONE, 1);
        int[][] due = {{0, 80, 1, 2, 512}, {1, 80, 2, 2, 512 + 8}};
        for (int e = 0; e < 2; e++) {
            for (int what = 0; what < 5; what++) {
                due("excuse " + e + ", " + what, x.excuse(e, what), due[e][what]);
            }
        }
    }

    @Sentence(promise = 10, says = "Returns something about a pupil.")
    static void everythingAboutAPupil() {
        ExcuseTariffs x = new ExcuseTariffs();
        aDay(x);
        int[] due = {5, 50, 1, 1, 0, 1, 2, 50};
        int[] dueOfTheNeighbour = {5, 0, 0, 0, NONE, 0, 2, 0};
        int[] dueOfTheWitness = {4, 0, 0, 0, NONE, 0, 0, 0};
        for (int what = 0; what < 8; what++) {
            due("pupil 0, " + what, x.pupil(0, what), due[what]);
            due("pupil 1, " + what, x.pupil(1, what), dueOfTheNeighbour[what]);
            due("pupil 9, " + what, x.pupil(9, what), dueOfTheWitness[what]);
        }
    }

    @Sentence(promise = 11, says = "Returns the novelty of an excuse for a pupil.")
    static void noveltyOfADay() {
        ExcuseTariffs x = new ExcuseTariffs();
        aDay(x);
        for (int p = 0; p < 10; p++) {
            due("novelty for " + p, x.novelty(p, 0), p < 2 ? 50 : 75);
            due("novelty of the other one for " + p, x.novelty(p, 1), 100);
        }
    }

    @Sentence(promise = 12, says = "Tells why an offer would be refused.")
    static void whyIsWhatAnOfferAnswers() {
        int[] seen = new int[5];
        for (int p = 0; p < 10; p++) {
            for (int e = 0; e < 2; e++) {
                for (int w = 6; w < 10; w++) {
                    for (int minutes = 1; minutes < 100; minutes += 49) {
                        ExcuseTariffs x = new ExcuseTariffs();
                        aDay(x);
                        x.set(LIMIT, 1);
                        x.set(NEEDS, 62);
                        standByNoMore(x, 9);
                        int why = x.why(p, e, w, minutes);
                        due("the offer", x.offer(p, e, w, minutes), why);
                        seen[Math.max(0, why)]++;
                    }
                }
            }
        }
        for (int reason = 0; reason < 5; reason++) {
            check(seen[reason] > 0, "no offer was answered by " + reason);
        }
    }

    /** Takes all credit from a witness, by offers of pupil 4 that are too light. */
    private static void standByNoMore(ExcuseTariffs x, int witness) {
        x.worth(0, 1);
        x.worth(1, 1);
        for (int i = 0; x.pupil(witness, 0) > 0 && i < 5; i++) {
            x.offer(4, i % 2, witness, 1);
        }
        x.worth(0, 80);
        x.worth(1, 80);
    }

    @Sentence(promise = 13, says = "Returns the weight that an offer would have.")
    static void weightDecidesAnOffer() {
        for (int needs = 74; needs <= 80; needs++) {
            ExcuseTariffs x = school(80, 80);
            x.set(NEEDS, needs);
            int weight = x.weight(7, 1, 6, 65) - 1000;
            due("weight", weight, 80 - 6 + 5 - 2);
            due("the offer", x.offer(7, 1, 6, 65), needs <= weight ? 0 : 4);
        }
    }

    @Sentence(promise = 14, says = "Returns a number.")
    static void everyNumberOfADay() {
        ExcuseTariffs x = new ExcuseTariffs();
        aDay(x);
        int[] due = {40, 25, 3, 5, 4, 2, 1, 0, 1, 0, 0, 50, 50, 100, 0, 49, 2, 0, 3, 5};
        for (int what = 0; what < 20; what++) {
            due("count " + what, x.count(what), due[what]);
        }
    }

    @Sentence(promise = 16, says = "Finds the witness with whom an offer would have the greatest weight, of those with a credit"
            + " above 0; of several the lowest.")
    static void witnessOfTheGreatestWeight() {
        ExcuseTariffs x = easySchool();
        int[] credits = {5, 4, 3, 2, 1, 0, 1, 2, 3, 4};
        for (int w = 0; w < 10; w++) {
            for (int i = 0; i < 5 - credits[w]; i++) {
                due("a stamp", x.offer((w + 1) % 10, i % 2, w, 1), 0);
            }
        }
        due("the greatest credit", x.bestWitness(9, 1, 50), 0);
        due("not the neighbour of 5 - 2", x.bestWitness(1, 1, 50), 9);
        due("not oneself", x.bestWitness(0, 1, 50), 9);
        for (int p = 0; p < 10; p++) {
            int best = x.bestWitness(p, 1, 50);
            for (int w = 0; w < 10; w++) {
                if (w != p && credits[w] > 0) {
                    int more = x.weight(p, 1, best, 50) - x.weight(p, 1, w, 50);
                    check(w < best ? more > 0 : more >= 0, "for " + p + " " + w + " is better than " + best);
                }
            }
        }
    }

    @Sentence(promise = 18, says = "Appends characters to the pad. They are given as a number: its lowest 8 bits are the last"
            + " character, the next 8 bits the one before, and so on")
    static void appendedInTheirOrder() {
        ExcuseTariffs x = school(80);
        due("three", x.put('0' << 16 | 'a' << 8 | 'm'), 3);
        due("one more", x.put('3'), 4);
        due("and one", x.put('1'), 5);
        due("read", x.read(), 1);
        due("31 minutes", x.pupil(0, 6), 1);
        due("eight", x.put(packed("4am1w5,6")), 8);
        due("two", x.put(packed("am")), 10);
        due("five", x.put(packed("2,7am")), 15);
        due("one", x.put('3'), 16);
        due("no fault", x.fault(), NONE);
        due("read", x.read(), 2);
        due("the witness", x.pupil(5, 0), 4);
        due("refused", x.pupil(7, 1), 15);
    }

    @Sentence(promise = 21, says = "Undoes the latest change: everything except the pad, the slots and the history is as it was"
            + " before it.")
    static void undoOneAfterTheOther() {
        ExcuseTariffs x = new ExcuseTariffs();
        aDay(x);
        due("pay", x.undo(), 4);
        due("owed", x.pupil(0, 1), 100);
        due("not paid", x.pupil(0, 7), 0);
        due("the refusal", x.undo(), 3);
        due("nothing owed", x.pupil(0, 1), 0);
        due("not refused", x.count(8), 0);
        due("the grudge of the stamp", x.pupil(0, 6), 1);
        due("the stamp", x.undo(), 2);
        due("no use", x.excuse(0, 3), 0);
        due("the credit of the witness", x.pupil(9, 0), 5);
        due("no kind", x.pupil(0, 4), NONE);
        due("the second excuse", x.undo(), 1);
        due("one excuse", x.count(5), 1);
        due("the first excuse", x.undo(), 0);
        due("no excuse", x.count(5), 0);
        due("the pad stays", x.count(18), 3);
    }

    /** After a day the call answers that, records one state, and undo() brings that state back. */
    private static void isAChange(ToIntFunction<ExcuseTariffs> call, int answer) {
        Consumer<ExcuseTariffs> before = OrdinaryDays::aDay;
        Consumer<ExcuseTariffs> after = before.andThen(x -> due("the call", call.applyAsInt(x), answer));
        ExcuseTariffs x = new ExcuseTariffs();
        after.accept(x);
        due("changes", x.count(19), 6);
        sameSchool("undone", pictureAfter(after.andThen(y -> due("undo", y.undo(), 5))), pictureAfter(before));
    }
}
