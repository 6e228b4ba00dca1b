/** The boundary cases of promises 1 to 4: a new object, the settings, and the list of excuses. */
final class BoundariesOfTheList extends Checks {
    private static final int[] OUTSIDE = {MIN, -7, NONE, -5, -1};

    // ---- promise 1

    @Sentence(promise = 1, says = "Creates a school without excuses, in its first term.")
    static void noExcusesAtFirst() {
        ExcuseTariffs x = new ExcuseTariffs();
        due("excuses", x.count(5), 0);
        due("terms that have ended", x.count(14), 0);
        for (int e = 0; e < 12; e++) {
            due("excuse " + e, x.excuse(e, 0), NO_SUCH);
        }
        due("stamps", x.count(6), 0);
        due("the first excuse is 0", x.add(0, 1), 0);
        due("the first term ends", x.endTerm(), 0);
        due("one term", x.count(14), 1);
    }

    @Sentence(promise = 1, says = "who has a grudge, 0 to 9 (0 at first)")
    static void noGrudgesAtFirst() {
        ExcuseTariffs x = new ExcuseTariffs();
        for (int p = 0; p < 10; p++) {
            due("grudge of the master of " + p, x.pupil(p, 6), 0);
        }
        due("all grudges", x.count(16), 0);
    }

    @Sentence(promise = 1, says = "A pupil has a credit, 0 to 9 (5 at first)")
    static void creditsAtFirst() {
        ExcuseTariffs x = new ExcuseTariffs();
        for (int p = 0; p < 10; p++) {
            due("credit of " + p, x.pupil(p, 0), 5);
        }
        due("all credits", x.count(15), 50);
    }

    @Sentence(promise = 1, says = "and a fine in pence (0 at first)")
    static void noFinesAtFirst() {
        ExcuseTariffs x = new ExcuseTariffs();
        for (int p = 0; p < 10; p++) {
            due("fine of " + p, x.pupil(p, 1), 0);
            due("paid by " + p, x.pupil(p, 7), 0);
            due("one penny is too much", x.pay(p, 1), NOT_POSSIBLE);
        }
        due("all fines", x.count(11), 0);
    }

    @Sentence(promise = 1, says = "There are 10 pupils, 0 to 9")
    static void tenPupils() {
        ExcuseTariffs x = school(50);
        for (int p = 0; p < 10; p++) {
            due("novelty for " + p, x.novelty(p, 0), 100);
        }
        due("pupil -1", x.novelty(-1, 0), NO_SUCH);
        due("pupil 10", x.novelty(10, 0), NO_SUCH);
    }

    @Sentence(promise = 1, says = "the pupil p is of the class p / 2")
    static void classesOfTwo() {
        for (int offering = 0; offering < 10; offering++) {
            ExcuseTariffs x = school(99);
            x.offer(offering, 0, NONE, 31);
            for (int p = 0; p < 10; p++) {
                boolean same = p / 2 == offering / 2;
                due("grudge for " + p + " after " + offering, x.pupil(p, 6), same ? 1 : 0);
                due("novelty for " + p + " after " + offering, x.novelty(p, 0), same ? 50 : 75);
            }
        }
    }

    @Sentence(promise = 1, says = "Everything is numbered from 0.")
    static void numbersFromZero() {
        ExcuseTariffs x = new ExcuseTariffs();
        due("excuse 0", x.add(0, 60), 0);
        due("pupil 0 offers excuse 0", x.offer(0, 0, NONE, 1), 0);
        due("witness 0", x.offer(1, 0, 0, 1), 4);
        due("kind 0", x.pupil(0, 4), 0);
        due("setting 0", x.set(0, 41), 40);
        due("slot 0", x.save(0), 0);
        due("slot 0", x.restore(0), 0);
    }

    // ---- promise 2

    private static void range(int setting, int least, int most, int first) {
        ExcuseTariffs x = new ExcuseTariffs();
        due("first value", x.count(setting), first);
        due("below the least", x.set(setting, least - 1), BAD_VALUE);
        due("above the most", x.set(setting, most + 1), BAD_VALUE);
        due("far below", x.set(setting, MIN), BAD_VALUE);
        due("far above", x.set(setting, MAX), BAD_VALUE);
        due("unchanged", x.count(setting), first);
        due("the least", x.set(setting, least), first);
        due("is set", x.count(setting), least);
        due("below the least", x.set(setting, least - 1), BAD_VALUE);
        due("the most", x.set(setting, most), least);
        due("is set", x.count(setting), most);
        due("above the most", x.set(setting, most + 1), BAD_VALUE);
        due("unchanged", x.count(setting), most);
        for (int other = 0; other < 5; other++) {
            if (other != setting) {
                due("another setting", x.count(other), new ExcuseTariffs().count(other));
            }
        }
    }

    @Sentence(promise = 2, says = "NEEDS (1 to 99; 40): worth.")
    static void rangeOfNeeds() {
        range(NEEDS, 1, 99, 40);
    }

    @Sentence(promise = 2, says = "WEARS (0 to 50; 25): hundredths.")
    static void rangeOfWears() {
        range(WEARS, 0, 50, 25);
    }

    @Sentence(promise = 2, says = "LIMIT (1 to 9; 3): uses.")
    static void rangeOfLimit() {
        range(LIMIT, 1, 9, 3);
    }

    @Sentence(promise = 2, says = "FINE (1 to 60; 5): pence a minute.")
    static void rangeOfFine() {
        range(FINE, 1, 60, 5);
    }

    @Sentence(promise = 2, says = "GRUDGE (0 to 20; 4): worth.")
    static void rangeOfGrudge() {
        range(GRUDGE, 0, 20, 4);
    }

    @Sentence(promise = 2, says = "Returns the previous value")
    static void previousValue() {
        ExcuseTariffs x = new ExcuseTariffs();
        due("first", x.set(WEARS, 0), 25);
        due("the same again", x.set(WEARS, 0), 0);
        due("the most", x.set(WEARS, 50), 0);
        due("after an error", x.set(WEARS, 51), BAD_VALUE);
        due("the one before", x.set(WEARS, 1), 50);
        x.undo();
        due("after an undo", x.set(WEARS, 2), 50);
    }

    @Sentence(promise = 2, says = "BAD_VALUE if there is no such setting, or value is out of its range")
    static void noSuchSetting() {
        ExcuseTariffs x = new ExcuseTariffs();
        for (int setting : OUTSIDE) {
            due("setting " + setting, x.set(setting, 1), BAD_VALUE);
        }
        due("setting 5", x.set(5, 1), BAD_VALUE);
        due("setting 6", x.set(6, 1), BAD_VALUE);
        due("setting MAX", x.set(MAX, 1), BAD_VALUE);
        due("neither a setting nor a value", x.set(5, 100), BAD_VALUE);
        due("the last setting", x.set(4, 1), 4);
        // Each value here is in the range of another setting.
        due("NEEDS 0", x.set(NEEDS, 0), BAD_VALUE);
        due("WEARS 60", x.set(WEARS, 60), BAD_VALUE);
        due("LIMIT 20", x.set(LIMIT, 20), BAD_VALUE);
        due("FINE 99", x.set(FINE, 99), BAD_VALUE);
        due("GRUDGE 50", x.set(GRUDGE, 50), BAD_VALUE);
    }

    // ---- promise 3

    @Sentence(promise = 3, says = "- `kind`: 0 to 4")
    static void rangeOfKind() {
        ExcuseTariffs x = new ExcuseTariffs();
        for (int kind : OUTSIDE) {
            due("kind " + kind, x.add(kind, 50), BAD_VALUE);
        }
        due("kind 5", x.add(5, 50), BAD_VALUE);
        due("kind MAX", x.add(MAX, 50), BAD_VALUE);
        due("no excuse came", x.count(5), 0);
        for (int kind = 0; kind <= 4; kind++) {
            due("kind " + kind, x.add(kind, 50), kind);
            due("its kind", x.excuse(kind, 0), kind);
        }
    }

    @Sentence(promise = 3, says = "- `worth`: 1 to 99")
    static void rangeOfWorth() {
        ExcuseTariffs x = new ExcuseTariffs();
        for (int worth : OUTSIDE) {
            due("worth " + worth, x.add(0, worth), BAD_VALUE);
        }
        due("worth 0", x.add(0, 0), BAD_VALUE);
        due("worth 100", x.add(0, 100), BAD_VALUE);
        due("worth MAX", x.add(0, MAX), BAD_VALUE);
        due("no excuse came", x.count(5), 0);
        due("worth 1", x.add(0, 1), 0);
        due("its worth", x.excuse(0, 1), 1);
        due("worth 99", x.add(0, 99), 1);
        due("its worth", x.excuse(1, 1), 99);
    }

    @Sentence(promise = 3, says = "Returns its number; BAD_VALUE if an argument is out of range; TOO_MANY if there are 12.")
    static void thirteenthExcuse() {
        ExcuseTariffs x = school(50, 50, 50, 50, 50, 50, 50, 50, 50, 50, 50);
        due("eleven", x.count(5), 11);
        due("the twelfth", x.add(4, 99), 11);
        due("twelve", x.count(5), 12);
        due("the thirteenth", x.add(0, 1), TOO_MANY);
        due("still twelve", x.count(5), 12);
        due("the twelfth is what it was", x.excuse(11, 1), 99);
        due("excuse 12", x.excuse(12, 0), NO_SUCH);
        due("again", x.add(4, 99), TOO_MANY);
        x.undo();
        due("room again after an undo", x.add(3, 7), 11);
        due("full again", x.add(3, 7), TOO_MANY);
    }

    @Sentence(promise = 3, says = "BAD_VALUE if an argument is out of range; TOO_MANY if there are 12.")
    static void badValueBeforeTooMany() {
        ExcuseTariffs x = school(50, 50, 50, 50, 50, 50, 50, 50, 50, 50, 50, 50);
        due("kind -1", x.add(-1, 50), BAD_VALUE);
        due("kind 5", x.add(5, 50), BAD_VALUE);
        due("worth 0", x.add(0, 0), BAD_VALUE);
        due("worth 100", x.add(0, 100), BAD_VALUE);
        due("both", x.add(MAX, MIN), BAD_VALUE);
        due("neither", x.add(4, 99), TOO_MANY);
    }

    @Sentence(promise = 3, says = "There are up to 12 excuses, numbered in the order in which they came into the list")
    static void numberedInTheirOrder() {
        ExcuseTariffs x = new ExcuseTariffs();
        for (int e = 0; e < 12; e++) {
            due("number", x.add((e + 3) % 5, 99 - 8 * e), e);
        }
        for (int e = 0; e < 12; e++) {
            due("kind of " + e, x.excuse(e, 0), (e + 3) % 5);
            due("worth of " + e, x.excuse(e, 1), 99 - 8 * e);
            due("uses of " + e, x.excuse(e, 2), 0);
        }
    }

    // ---- promise 4

    @Sentence(promise = 4, says = "- `worth`: 1 to 99")
    static void rangeOfNewWorth() {
        ExcuseTariffs x = school(50);
        for (int worth : OUTSIDE) {
            due("worth " + worth, x.worth(0, worth), BAD_VALUE);
        }
        due("worth 0", x.worth(0, 0), BAD_VALUE);
        due("worth 100", x.worth(0, 100), BAD_VALUE);
        due("worth MAX", x.worth(0, MAX), BAD_VALUE);
        due("unchanged", x.worth(0, 1), 50);
        due("worth 1", x.excuse(0, 1), 1);
        due("worth 99", x.worth(0, 99), 1);
        due("worth 99", x.excuse(0, 1), 99);
    }

    @Sentence(promise = 4, says = "Returns the previous one; NO_SUCH if there is no such excuse")
    static void worthOfNoExcuse() {
        ExcuseTariffs x = new ExcuseTariffs();
        due("empty list", x.worth(0, 50), NO_SUCH);
        for (int e = 0; e < 11; e++) {
            x.add(0, 50);
        }
        for (int excuse : OUTSIDE) {
            due("excuse " + excuse, x.worth(excuse, 50), NO_SUCH);
        }
        due("one behind the last", x.worth(11, 50), NO_SUCH);
        due("excuse MAX", x.worth(MAX, 50), NO_SUCH);
        due("the last", x.worth(10, 51), 50);
        due("the first", x.worth(0, 52), 50);
        due("the first is another", x.worth(0, 52), 52);
        x.add(0, 53);
        due("the twelfth", x.worth(11, 54), 53);
        due("a thirteenth", x.worth(12, 54), NO_SUCH);
        x.undo();
        x.undo();
        due("the twelfth is gone", x.worth(11, 54), NO_SUCH);
    }

    @Sentence(promise = 4, says = "NO_SUCH if there is no such excuse; BAD_VALUE if worth is out of range.")
    static void noSuchBeforeBadWorth() {
        ExcuseTariffs x = school(50);
        due("neither", x.worth(1, 0), NO_SUCH);
        due("neither", x.worth(-1, 100), NO_SUCH);
        due("the worth alone", x.worth(0, 100), BAD_VALUE);
    }
}
