/** The boundary cases of promises 14 to 17: numbers, and the best excuse, witness and minutes. */
final class BoundariesOfQuestions extends Checks {
    private static final int[] NO_PUPILS = {MIN, NONE, -1, 10, 11, MAX};
    private static final int[] NO_MINUTES = {MIN, NONE, -1, 0, 100, MAX};

    // ---- promise 14

    @Sentence(promise = 14, says = "- `what`: 0 to 4 the settings, 5 excuses, 6 stamps so far, 7 to 10 refused offers so far for"
            + " the reasons 1 to 4, 11 all fines that are owed, 12 what was paid so far, 13 fines so far, owed or paid, 14"
            + " terms that have ended, 15 all credits, 16 all grudges, 17 excuses that are worn out: whose novelty is 0 for"
            + " all pupils, 18 the length of the pad, 19 how many changes can be undone")
    static void eachNumber() {
        ExcuseTariffs x = school(99, 99, 1);
        int[] atFirst = {40, 25, 3, 5, 4, 3, 0, 0, 0, 0, 0, 0, 0, 0, 0, 50, 0, 0, 0, 3};
        for (int what = 0; what < 20; what++) {
            due("what " + what, x.count(what), atFirst[what]);
        }
        x.set(WEARS, 0);
        x.set(LIMIT, 1);
        standBy(x, 9, 5);
        x.offer(0, 0, NONE, 1);
        x.offer(1, 2, NONE, 2);
        x.offer(1, 2, NONE, 3);
        x.offer(1, 2, NONE, 3);
        x.offer(8, 1, 9, 4);
        x.pay(8, 20);
        x.endTerm();
        x.put('0');
        x.set(GRUDGE, 0);
        int[] later = {40, 0, 1, 5, 0, 3, 5, 1, 2, 1, 1, 45, 20, 65, 1, 65, 2, 0, 1, 6};
        for (int what = 0; what < 20; what++) {
            due("what " + what, x.count(what), later[what]);
        }
    }

    @Sentence(promise = 14, says = "Returns the number; BAD_VALUE if what is out of range.")
    static void noSuchNumber() {
        ExcuseTariffs x = new ExcuseTariffs();
        for (int what : new int[] {MIN, NONE, -1, 20, 21, MAX}) {
            due("what " + what, x.count(what), BAD_VALUE);
        }
    }

    @Sentence(promise = 14, says = "5 excuses")
    static void countFromNoneToTwelve() {
        ExcuseTariffs x = new ExcuseTariffs();
        for (int e = 0; e < 12; e++) {
            due("excuses", x.count(5), e);
            x.add(0, 1);
        }
        due("twelve", x.count(5), 12);
        x.add(0, 1);
        due("no thirteenth", x.count(5), 12);
    }

    @Sentence(promise = 14, says = "13 fines so far, owed or paid")
    static void finesOwedOrPaid() {
        ExcuseTariffs x = school(1);
        x.offer(0, 0, NONE, 10);
        x.offer(9, 0, NONE, 10);
        due("owed", x.count(11), 100);
        due("paid", x.count(12), 0);
        due("both", x.count(13), 100);
        x.pay(9, 50);
        due("owed", x.count(11), 50);
        due("paid", x.count(12), 50);
        due("both", x.count(13), 100);
        x.pay(0, 50);
        due("nothing is owed", x.count(11), 0);
        due("paid", x.count(12), 100);
        due("both", x.count(13), 100);
        x.endTerm();
        due("in a new term", x.count(13), 100);
    }

    @Sentence(promise = 14, says = "15 all credits")
    static void fromNoCreditToAllCredits() {
        ExcuseTariffs x = school(1, 1);
        due("at first", x.count(15), 50);
        for (int w = 0; w < 10; w++) {
            loseCredit(x, (w + 1) % 10, w, 3);
            due("all credits", x.count(15), 45 - 5 * w);
        }
        int[] credits = {20, 40, 60, 80, 90, 90};
        for (int term = 0; term < 6; term++) {
            x.endTerm();
            due("all credits", x.count(15), credits[term]);
        }
    }

    /** Takes two credits at a time from a witness, by offers that are refused for their weight. */
    private static void loseCredit(ExcuseTariffs x, int pupil, int witness, int times) {
        for (int i = 0; i < times; i++) {
            int otherKind = x.pupil(pupil, 4) == 0 ? 1 : 0;
            due("too light", x.offer(pupil, otherKind, witness, 1), 4);
        }
    }

    @Sentence(promise = 14, says = "16 all grudges")
    static void fromNoGrudgeToAllGrudges() {
        ExcuseTariffs x = easySchool();
        due("none", x.count(16), 0);
        for (int c = 0; c < 5; c++) {
            anger(x, 2 * c + c % 2, 10);
            due("nine more", x.count(16), 9 * (c + 1));
        }
    }

    @Sentence(promise = 14, says = "17 excuses that are worn out: whose novelty is 0 for all pupils")
    static void wornOutForAllClasses() {
        ExcuseTariffs x = school(99);
        x.set(NEEDS, 1);
        x.set(WEARS, 20);
        for (int c = 0; c < 5; c++) {
            due("not for class " + c, x.count(17), 0);
            due("a stamp", x.offer(2 * c, 0, NONE, 1), 0);
        }
        due("100 less 5 times 20", x.count(17), 1);
        x.set(WEARS, 17);
        due("100 less 6 times 17", x.count(17), 1);
        x.set(WEARS, 16);
        due("100 less 6 times 16", x.count(17), 0);
    }

    @Sentence(promise = 14, says = "whose novelty is 0 for all pupils")
    static void notWornOutForOneClass() {
        for (int spared = 0; spared < 5; spared++) {
            ExcuseTariffs x = school(99);
            x.set(NEEDS, 1);
            x.set(WEARS, 20);
            for (int c = 0; c < 5; c++) {
                if (c != spared) {
                    due("a stamp", x.offer(2 * c, 0, NONE, 1), 0);
                }
            }
            due("20 for class " + spared, x.novelty(2 * spared + 1, 0), 20);
            due("worn out", x.count(17), 0);
            x.set(WEARS, 24);
            due("4 for class " + spared, x.count(17), 0);
            x.set(WEARS, 25);
            due("0 for class " + spared, x.count(17), 1);
        }
    }

    @Sentence(promise = 14, says = "whose novelty is 0 for all pupils")
    static void noveltyOfOneIsNotWornOut() {
        ExcuseTariffs x = school(99);
        x.set(NEEDS, 1);
        for (int c = 0; c < 3; c++) {
            due("a stamp", x.offer(2 * c, 0, NONE, 1), 0);
        }
        x.set(WEARS, 33);
        due("100 less 3 times 33", x.novelty(9, 0), 1);
        due("not worn out", x.count(17), 0);
        x.set(WEARS, 34);
        due("100 less 3 times 34", x.novelty(9, 0), 0);
        due("worn out", x.count(17), 1);
    }

    @Sentence(promise = 14, says = "17 excuses that are worn out")
    static void fromNoneToTwelveWornOut() {
        ExcuseTariffs x = new ExcuseTariffs();
        x.set(WEARS, 50);
        due("no excuses", x.count(17), 0);
        for (int e = 0; e < 12; e++) {
            x.add(e % 5, 99);
        }
        due("all new", x.count(17), 0);
        for (int e = 0; e < 12; e++) {
            due("a stamp", x.offer(9, e, NONE, 1), 0);
            due("50 for other classes", x.count(17), e);
            due("a stamp", x.offer(2, e, NONE, 1), 0);
            due("worn out", x.count(17), e + 1);
        }
        x.endTerm();
        due("a new term", x.count(17), 0);
    }

    @Sentence(promise = 14, says = "18 the length of the pad")
    static void fromNoPadToAFullPad() {
        ExcuseTariffs x = new ExcuseTariffs();
        for (int length = 0; length < 60; length++) {
            due("length", x.count(18), length);
            x.put('a');
        }
        due("full", x.count(18), 60);
        x.put('a');
        due("no more", x.count(18), 60);
    }

    @Sentence(promise = 14, says = "19 how many changes can be undone")
    static void fromNoChangeToSix() {
        ExcuseTariffs x = new ExcuseTariffs();
        due("none", x.count(19), 0);
        for (int change = 1; change <= 8; change++) {
            x.endTerm();
            due("changes", x.count(19), Math.min(6, change));
        }
        for (int left = 5; left >= 0; left--) {
            x.undo();
            due("left", x.count(19), left);
        }
        x.undo();
        due("none", x.count(19), 0);
    }

    // ---- promise 15

    @Sentence(promise = 15, says = "- `minutes`: 1 to 99")
    static void minutesOfBestExcuse() {
        ExcuseTariffs x = school(99);
        for (int minutes : NO_MINUTES) {
            due("minutes " + minutes, x.bestExcuse(0, minutes), BAD_VALUE);
        }
        due("minutes 1", x.bestExcuse(0, 1), 0);
        due("minutes 99", x.bestExcuse(0, 99), 0);
    }

    @Sentence(promise = 15, says = "Returns the excuse; NO_SUCH if there is no such pupil; BAD_VALUE if minutes is out of range;"
            + " NONE if there is none.")
    static void errorsOfBestExcuseComeFirst() {
        ExcuseTariffs x = new ExcuseTariffs();
        for (int pupil : NO_PUPILS) {
            due("pupil " + pupil, x.bestExcuse(pupil, 1), NO_SUCH);
            due("nor minutes", x.bestExcuse(pupil, 0), NO_SUCH);
        }
        due("minutes, and no excuse", x.bestExcuse(0, 0), BAD_VALUE);
        due("no excuse alone", x.bestExcuse(0, 1), NONE);
        due("no excuse for the last pupil", x.bestExcuse(9, 99), NONE);
    }

    @Sentence(promise = 15, says = "NONE if there is none.")
    static void noExcuseGetsAStamp() {
        ExcuseTariffs x = school(39, 40);
        due("just one", x.bestExcuse(0, 9), 1);
        due("10 minutes", x.bestExcuse(0, 10), NONE);
        x.set(LIMIT, 1);
        x.offer(0, 1, NONE, 1);
        due("used up", x.bestExcuse(0, 1), NONE);
        x.endTerm();
        x.set(NEEDS, 41);
        due("too light", x.bestExcuse(0, 1), NONE);
        x.set(NEEDS, 1);
        due("both", x.bestExcuse(0, 1), 1);
        x.offer(2, 1, NONE, 1);
        due("1 is of the latest kind", x.bestExcuse(2, 1), 0);
    }

    @Sentence(promise = 15, says = "with the greatest weight; of several the lowest.")
    static void lowestOfTheHeaviest() {
        ExcuseTariffs x = school(50, 80, 80, 79, 80);
        due("of three", x.bestExcuse(0, 1), 1);
        x.worth(1, 79);
        due("of two", x.bestExcuse(0, 1), 2);
        x.worth(4, 81);
        due("the last", x.bestExcuse(0, 1), 4);
        x.worth(0, 81);
        due("the first", x.bestExcuse(0, 1), 0);
        // 81 * 99 / 100 and 80 * 100 / 100 are the same weight.
        x.set(WEARS, 1);
        x.offer(2, 0, NONE, 1);
        x.offer(4, 4, NONE, 1);
        x.worth(1, 80);
        due("weights are compared when they are rounded", x.bestExcuse(6, 1), 0);
        x.worth(0, 80);
        due("79 is less", x.bestExcuse(6, 1), 1);
    }

    @Sentence(promise = 15, says = "Finds the excuse with which an offer of a pupil, without a witness, would get a stamp")
    static void heavyButRefused() {
        ExcuseTariffs x = school(99, 60, 50, 98, 40, 97);
        x.set(WEARS, 0);
        due("the heaviest", x.bestExcuse(0, 1), 0);
        x.offer(0, 0, NONE, 1);
        due("0 and 5 are of the latest kind", x.bestExcuse(0, 1), 3);
        due("not for the classmate", x.bestExcuse(1, 1), 0);
        x.offer(0, 3, NONE, 1);
        due("0 may be used again", x.bestExcuse(0, 1), 0);
        x.set(LIMIT, 1);
        due("0 and 3 are used up", x.bestExcuse(0, 1), 5);
        due("not for the classmate", x.bestExcuse(1, 1), 0);
        x.offer(0, 5, NONE, 1);
        due("the heaviest that is left", x.bestExcuse(0, 1), 1);
        due("asking is no offer", x.count(6), 3);
    }

    @Sentence(promise = 15, says = "Finds the excuse with which an offer of a pupil")
    static void bestOfTwelve() {
        ExcuseTariffs x = school(51, 40, 41, 42, 43, 44, 45, 46, 47, 48, 49, 50);
        for (int p = 0; p < 10; p++) {
            due("the first of twelve", x.bestExcuse(p, 1), 0);
        }
        x.worth(11, 52);
        for (int p = 0; p < 10; p++) {
            due("the last of twelve", x.bestExcuse(p, 1), 11);
        }
    }

    @Sentence(promise = 15, says = "of a pupil, without a witness, would get a stamp")
    static void bestExcuseHasNoWitness() {
        ExcuseTariffs x = school(39, 38);
        due("a witness would do", x.why(0, 0, 2, 1), 0);
        due("but there is none", x.bestExcuse(0, 1), NONE);
    }

    // ---- promise 16

    @Sentence(promise = 16, says = "- `minutes`: 1 to 99")
    static void minutesOfBestWitness() {
        ExcuseTariffs x = school(99);
        for (int minutes : NO_MINUTES) {
            due("minutes " + minutes, x.bestWitness(0, 0, minutes), BAD_VALUE);
        }
        due("minutes 1", x.bestWitness(0, 0, 1), 2);
        due("minutes 99", x.bestWitness(9, 0, 99), 0);
    }

    @Sentence(promise = 16, says = "Returns the witness; NO_SUCH if there is no such pupil or excuse; BAD_VALUE if minutes is out")
    static void errorsOfBestWitnessComeFirst() {
        ExcuseTariffs x = new ExcuseTariffs();
        due("empty list", x.bestWitness(0, 0, 1), NO_SUCH);
        x.add(0, 99);
        for (int pupil : NO_PUPILS) {
            due("pupil " + pupil, x.bestWitness(pupil, 0, 1), NO_SUCH);
            due("nor minutes", x.bestWitness(pupil, 0, 0), NO_SUCH);
        }
        for (int excuse : new int[] {MIN, NONE, -1, 1, 11, 12, MAX}) {
            due("excuse " + excuse, x.bestWitness(0, excuse, 1), NO_SUCH);
            due("nor minutes", x.bestWitness(0, excuse, 100), NO_SUCH);
        }
    }

    @Sentence(promise = 16, says = "BAD_VALUE if minutes is out of range; NONE if there is none.")
    static void nobodyHasCredit() {
        ExcuseTariffs x = school(1, 1);
        for (int w = 1; w < 10; w++) {
            loseCredit(x, 0, w, 3);
            due("credit", x.pupil(w, 0), 0);
            due("the next one", x.bestWitness(0, 0, 1), w == 9 ? NONE : w + 1);
        }
        due("the pupil's own credit", x.pupil(0, 0), 5);
        due("minutes come first", x.bestWitness(0, 0, 0), BAD_VALUE);
        due("for another the only one", x.bestWitness(9, 0, 1), 0);
        due("for the classmate, too", x.bestWitness(1, 0, 1), 0);
        x.endTerm();
        due("a new term", x.bestWitness(0, 0, 1), 2);
    }

    @Sentence(promise = 16, says = "of those with a credit above 0; of several the lowest.")
    static void lowestOfTheBestWitnesses() {
        ExcuseTariffs x = easySchool();
        due("of eight", x.bestWitness(0, 0, 1), 2);
        due("of eight", x.bestWitness(1, 0, 1), 2);
        for (int p = 2; p < 10; p++) {
            due("of eight", x.bestWitness(p, 0, 1), 0);
        }
        x.offer(9, 0, 2, 1);
        due("2 has 4", x.bestWitness(0, 0, 1), 3);
        for (int w = 3; w < 9; w++) {
            x.offer(1, w % 2, w, 1);
        }
        due("only 9 has 5", x.bestWitness(0, 0, 1), 9);
        x.offer(1, 1, 9, 1);
        due("all have 4", x.bestWitness(0, 0, 1), 2);
    }

    @Sentence(promise = 16, says = "of those with a credit above 0")
    static void witnessOfTheClass() {
        ExcuseTariffs x = school(1, 1);
        for (int w = 2; w < 10; w++) {
            loseCredit(x, 0, w, w == 2 ? 2 : 3);
        }
        due("5 less 2 is more than 1", x.bestWitness(0, 0, 1), 1);
        loseCredit(x, 0, 1, 1);
        due("3 less 2 is 1, as the credit of 2", x.bestWitness(0, 0, 1), 1);
        loseCredit(x, 0, 1, 1);
        due("1 less 2 is 0, less than the credit of 2", x.bestWitness(0, 0, 1), 2);
        loseCredit(x, 0, 2, 1);
        due("only 1 has a credit, and adds nothing", x.bestWitness(0, 0, 1), 1);
        due("the weight is far below 0", x.weight(0, 0, 1, 1), 1000 + 1 - 36);
        due("for another, 0 has more", x.bestWitness(9, 0, 1), 0);
        loseCredit(x, 0, 1, 1);
        due("nobody has any", x.bestWitness(0, 0, 1), NONE);
    }

    // ---- promise 17

    @Sentence(promise = 17, says = "Returns the minutes, 1 to 99; NO_SUCH if there is no such pupil or excuse")
    static void errorsOfMostMinutes() {
        ExcuseTariffs x = new ExcuseTariffs();
        due("empty list", x.mostMinutes(0, 0), NO_SUCH);
        x.add(0, 49);
        for (int pupil : NO_PUPILS) {
            due("pupil " + pupil, x.mostMinutes(pupil, 0), NO_SUCH);
        }
        for (int excuse : new int[] {MIN, NONE, -1, 1, 11, 12, MAX}) {
            due("excuse " + excuse, x.mostMinutes(0, excuse), NO_SUCH);
        }
        due("neither", x.mostMinutes(10, 1), NO_SUCH);
        due("the last pupil", x.mostMinutes(9, 0), 99);
    }

    @Sentence(promise = 17, says = "Finds the most minutes for which an offer without a witness would get a stamp.")
    static void mostMinutesForEachWorth() {
        for (int over = 0; over <= 12; over++) {
            ExcuseTariffs x = school(40 + over);
            int most = Math.min(99, 10 * over + 9);
            due("worth " + (40 + over), x.mostMinutes(0, 0), most);
            due("a stamp", x.why(0, 0, NONE, most), 0);
            if (most < 99) {
                due("one minute more", x.why(0, 0, NONE, most + 1), 4);
            }
        }
    }

    @Sentence(promise = 17, says = "NONE if there are none.")
    static void noMinutesAtAll() {
        ExcuseTariffs x = school(39, 99);
        due("one too light", x.mostMinutes(0, 0), NONE);
        due("a witness would do", x.why(0, 0, 2, 1), 0);
        x.worth(0, 1);
        due("far too light", x.mostMinutes(0, 0), NONE);
        due("heavy", x.mostMinutes(0, 1), 99);
        x.offer(0, 1, NONE, 1);
        due("of the latest kind", x.mostMinutes(0, 1), NONE);
        x.set(LIMIT, 1);
        x.offer(0, 0, NONE, 1);
        due("used up", x.mostMinutes(0, 1), NONE);
        x.set(LIMIT, 2);
        due("99 * 50 / 100 less 4", x.mostMinutes(0, 1), 59);
        due("nothing happened", x.count(6), 1);
    }
}
