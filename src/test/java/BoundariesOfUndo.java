import java.util.function.Consumer;

/** The boundary cases of promises 21 to 23, undo and saving, and of the errors, which change nothing. */
final class BoundariesOfUndo extends Checks {

    /** A school with a little of everything, in its second term. */
    private static void busy(ExcuseTariffs x) {
        x.add(0, 70);
        x.add(1, 80);
        x.offer(0, 0, 5, 40);
        x.offer(0, 0, 5, 40);
        x.save(1);
        x.offer(3, 1, 8, 9);
        x.pay(0, 50);
        x.endTerm();
        x.set(LIMIT, 1);
        x.offer(4, 1, 7, 31);
        x.offer(4, 1, 7, 31);
        x.offer(6, 0, 4, 20);
        putText(x, "3am4,");
    }

    private static void busyAndFull(ExcuseTariffs x) {
        busy(x);
        for (int e = 2; e < 12; e++) {
            x.add(4, 99);
        }
        putText(x, "5bm4w6,1am1,2am2,3am3,4am4,5am5,6am6,7am7,8am8,9am9,0am");
    }

    // ---- errors

    @Sentence(promise = 2, says = "A call that returns an error changes nothing.")
    static void errorsOfSet() {
        changesNothing("setting", BoundariesOfUndo::busy, x -> x.set(5, 1), BAD_VALUE);
        for (int setting = 0; setting < 5; setting++) {
            int s = setting;
            changesNothing("value", BoundariesOfUndo::busy, x -> x.set(s, 100), BAD_VALUE);
            changesNothing("value", BoundariesOfUndo::busy, x -> x.set(s, -1), BAD_VALUE);
        }
    }

    @Sentence(promise = 3, says = "A call that returns an error changes nothing.")
    static void errorsOfAdd() {
        changesNothing("kind", BoundariesOfUndo::busy, x -> x.add(5, 50), BAD_VALUE);
        changesNothing("worth", BoundariesOfUndo::busy, x -> x.add(0, 100), BAD_VALUE);
        changesNothing("thirteenth", BoundariesOfUndo::busyAndFull, x -> x.add(0, 50), TOO_MANY);
    }

    @Sentence(promise = 4, says = "A call that returns an error changes nothing.")
    static void errorsOfWorth() {
        changesNothing("excuse", BoundariesOfUndo::busy, x -> x.worth(2, 50), NO_SUCH);
        changesNothing("worth", BoundariesOfUndo::busy, x -> x.worth(0, 100), BAD_VALUE);
    }

    @Sentence(promise = 5, says = "A call that returns an error changes nothing.")
    static void errorsOfOffer() {
        changesNothing("pupil", BoundariesOfUndo::busy, x -> x.offer(10, 0, NONE, 1), NO_SUCH);
        changesNothing("excuse", BoundariesOfUndo::busy, x -> x.offer(0, 2, NONE, 1), NO_SUCH);
        changesNothing("witness", BoundariesOfUndo::busy, x -> x.offer(0, 0, 10, 1), NO_SUCH);
        changesNothing("minutes", BoundariesOfUndo::busy, x -> x.offer(0, 0, 1, 100), BAD_VALUE);
        changesNothing("the pupil", BoundariesOfUndo::busy, x -> x.offer(4, 0, 4, 50), BAD_VALUE);
    }

    @Sentence(promise = 6, says = "A call that returns an error changes nothing.")
    static void errorsOfPay() {
        changesNothing("pupil", BoundariesOfUndo::busy, x -> x.pay(10, 1), NO_SUCH);
        changesNothing("pence", BoundariesOfUndo::busy, x -> x.pay(0, 0), BAD_VALUE);
        changesNothing("fine", BoundariesOfUndo::busy, x -> x.pay(0, 151), NOT_POSSIBLE);
    }

    @Sentence(promise = 8, says = "A call that returns an error changes nothing.")
    static void errorsOfRead() {
        changesNothing("a text that ends too early", BoundariesOfUndo::busy, x -> x.read(), BAD_TEXT);
        changesNothing("a full pad", BoundariesOfUndo::busyAndFull, x -> x.read(), BAD_TEXT);
        changesNothing("an empty pad", x -> x.add(0, 50), x -> x.read(), BAD_TEXT);
    }

    @Sentence(promise = 18, says = "A call that returns an error changes nothing.")
    static void errorsOfPut() {
        changesNothing("no character", BoundariesOfUndo::busy, x -> x.put(0), BAD_VALUE);
        changesNothing("a bad one behind good ones", BoundariesOfUndo::busy, x -> x.put(packed("3am4 ")), BAD_VALUE);
        changesNothing("a bad one before good ones", BoundariesOfUndo::busy, x -> x.put(packed(" 3am4")), BAD_VALUE);
        changesNothing("too many", BoundariesOfUndo::busyAndFull, x -> x.put('1'), TOO_MANY);
    }

    @Sentence(promise = 21, says = "A call that returns an error changes nothing.")
    static void errorsOfUndo() {
        Consumer<ExcuseTariffs> undone = BoundariesOfUndo::busy;
        for (int i = 0; i < 6; i++) {
            undone = undone.andThen(x -> x.undo());
        }
        changesNothing("no history", undone, x -> x.undo(), NOT_POSSIBLE);
        changesNothing("a new object", x -> x.put('0'), x -> x.undo(), NOT_POSSIBLE);
    }

    @Sentence(promise = 22, says = "A call that returns an error changes nothing.")
    static void errorsOfSave() {
        changesNothing("slot 2", BoundariesOfUndo::busy, x -> x.save(2), BAD_VALUE);
        changesNothing("slot -1", BoundariesOfUndo::busy, x -> x.save(-1), BAD_VALUE);
    }

    @Sentence(promise = 23, says = "A call that returns an error changes nothing.")
    static void errorsOfRestore() {
        changesNothing("slot 2", BoundariesOfUndo::busy, x -> x.restore(2), BAD_VALUE);
        changesNothing("slot -1", BoundariesOfUndo::busy, x -> x.restore(-1), BAD_VALUE);
        changesNothing("nothing saved", BoundariesOfUndo::busy, x -> x.restore(0), NOT_POSSIBLE);
    }

    // ---- what there is, and what if

    @Sentence(promise = 9, says = "what there is; nothing changes.")
    static void askingForExcusesChangesNothing() {
        changesNothing("excuse", BoundariesOfUndo::busy, x -> x.excuse(0, 3), 2);
        changesNothing("excuse", BoundariesOfUndo::busy, x -> x.excuse(2, 0), NO_SUCH);
        changesNothing("what", BoundariesOfUndo::busy, x -> x.excuse(0, 5), BAD_VALUE);
    }

    @Sentence(promise = 10, says = "what there is; nothing changes.")
    static void askingForPupilsChangesNothing() {
        changesNothing("pupil", BoundariesOfUndo::busy, x -> x.pupil(0, 1), 150);
        changesNothing("pupil", BoundariesOfUndo::busy, x -> x.pupil(10, 1), NO_SUCH);
        changesNothing("what", BoundariesOfUndo::busy, x -> x.pupil(0, 8), BAD_VALUE);
    }

    @Sentence(promise = 11, says = "what there is; nothing changes.")
    static void askingForNoveltyChangesNothing() {
        changesNothing("novelty", BoundariesOfUndo::busy, x -> x.novelty(5, 1), 50);
        changesNothing("novelty", BoundariesOfUndo::busy, x -> x.novelty(10, 1), NO_SUCH);
    }

    @Sentence(promise = 12, says = "what there is; nothing changes.")
    static void askingWhyChangesNothing() {
        changesNothing("used up", BoundariesOfUndo::busy, x -> x.why(4, 1, 9, 99), 1);
        changesNothing("too light", BoundariesOfUndo::busy, x -> x.why(5, 1, 9, 99), 4);
        changesNothing("a stamp", BoundariesOfUndo::busy, x -> x.why(9, 1, 1, 99), 0);
        changesNothing("minutes", BoundariesOfUndo::busy, x -> x.why(9, 1, 1, 100), BAD_VALUE);
    }

    @Sentence(promise = 13, says = "what there is; nothing changes.")
    static void askingForTheWeightChangesNothing() {
        changesNothing("weight", BoundariesOfUndo::busy, x -> x.weight(9, 1, 1, 99), 1000 + 60 + 7 - 9);
        changesNothing("minutes", BoundariesOfUndo::busy, x -> x.weight(9, 1, 1, 0), BAD_VALUE);
    }

    @Sentence(promise = 14, says = "what there is; nothing changes.")
    static void countingChangesNothing() {
        changesNothing("count", BoundariesOfUndo::busy, x -> x.count(14), 1);
        changesNothing("count", BoundariesOfUndo::busy, x -> x.count(20), BAD_VALUE);
    }

    @Sentence(promise = 15, says = "what if; nothing changes.")
    static void askingForAnExcuseChangesNothing() {
        changesNothing("bestExcuse", BoundariesOfUndo::busy, x -> x.bestExcuse(9, 9), 1);
        changesNothing("bestExcuse", BoundariesOfUndo::busy, x -> x.bestExcuse(9, 100), BAD_VALUE);
    }

    @Sentence(promise = 16, says = "what if; nothing changes.")
    static void askingForAWitnessChangesNothing() {
        changesNothing("bestWitness", BoundariesOfUndo::busy, x -> x.bestWitness(9, 0, 9), 0);
        changesNothing("bestWitness", BoundariesOfUndo::busy, x -> x.bestWitness(9, 2, 9), NO_SUCH);
    }

    @Sentence(promise = 17, says = "what if; nothing changes.")
    static void askingForMinutesChangesNothing() {
        changesNothing("mostMinutes", BoundariesOfUndo::busy, x -> x.mostMinutes(9, 1), 99);
        changesNothing("mostMinutes", BoundariesOfUndo::busy, x -> x.mostMinutes(4, 1), NONE);
    }

    @Sentence(promise = 20, says = "Returns the fault of the pad")
    static void askingForTheFaultChangesNothing() {
        changesNothing("fault", BoundariesOfUndo::busy, x -> x.fault(), 5);
        changesNothing("fault", BoundariesOfUndo::busyAndFull, x -> x.fault(), 60);
    }

    // ---- promise 21

    @Sentence(promise = 21, says = "Returns how many changes can be undone then; NOT_POSSIBLE if there is none.")
    static void undoOfNothing() {
        ExcuseTariffs x = new ExcuseTariffs();
        due("a new object", x.undo(), NOT_POSSIBLE);
        x.add(0, 50);
        due("the only one", x.undo(), 0);
        due("no more", x.undo(), NOT_POSSIBLE);
        due("still no more", x.undo(), NOT_POSSIBLE);
        due("excuses", x.count(5), 0);
        x.set(NEEDS, 41);
        due("one again", x.count(19), 1);
        due("undone", x.undo(), 0);
        due("NEEDS", x.count(0), 40);
    }

    @Sentence(promise = 21, says = "A history of at most 6 states is kept")
    static void sixChanges() {
        ExcuseTariffs x = new ExcuseTariffs();
        for (int change = 1; change <= 6; change++) {
            x.set(NEEDS, 50 + change);
            due("changes", x.count(19), change);
        }
        for (int left = 5; left >= 0; left--) {
            due("left", x.undo(), left);
            due("NEEDS", x.count(0), left == 0 ? 40 : 50 + left);
        }
        due("no more", x.undo(), NOT_POSSIBLE);
    }

    @Sentence(promise = 21, says = "when one more is recorded, the oldest one is dropped.")
    static void theOldestIsDropped() {
        for (int changes = 7; changes <= 20; changes++) {
            ExcuseTariffs x = new ExcuseTariffs();
            for (int change = 1; change <= changes; change++) {
                x.set(NEEDS, 50 + change);
                due("changes", x.count(19), Math.min(6, change));
            }
            for (int left = 5; left >= 0; left--) {
                due("left", x.undo(), left);
                due("NEEDS", x.count(0), 50 + changes - 6 + left);
            }
            due("the oldest one is gone", x.undo(), NOT_POSSIBLE);
            due("NEEDS", x.count(0), 50 + changes - 6);
        }
    }

    @Sentence(promise = 21, says = "when one more is recorded, the oldest one is dropped.")
    static void changesAndUndosInTurn() {
        ExcuseTariffs x = new ExcuseTariffs();
        int[] values = new int[100];
        values[0] = 40;
        int at = 0;
        int kept = 0;
        for (int step = 1; step <= 90; step++) {
            if (step % 5 == 0 || step % 7 == 3) {
                due("undo", x.undo(), kept == 0 ? NOT_POSSIBLE : kept - 1);
                at -= kept == 0 ? 0 : 1;
                kept -= kept == 0 ? 0 : 1;
            } else {
                due("set", x.set(NEEDS, step), values[at]);
                at++;
                values[at] = step;
                kept = Math.min(6, kept + 1);
            }
            due("NEEDS", x.count(0), values[at]);
            due("kept", x.count(19), kept);
        }
    }

    @Sentence(promise = 21, says = "(also if nothing is different then)")
    static void changesWithNothingDifferent() {
        ExcuseTariffs x = new ExcuseTariffs();
        due("set", x.set(NEEDS, 40), 40);
        due("one", x.count(19), 1);
        x.add(0, 50);
        due("worth", x.worth(0, 50), 50);
        due("three", x.count(19), 3);
        x.save(0);
        due("restore", x.restore(0), 0);
        due("four", x.count(19), 4);
        putText(x, "0lm1");
        due("read", x.read(), 0);
        due("five", x.count(19), 5);
        due("undo of read", x.undo(), 4);
        due("undo of restore", x.undo(), 3);
        due("undo of worth", x.undo(), 2);
        due("the excuse is there", x.count(5), 1);
        due("undo of add", x.undo(), 1);
        due("undo of set", x.undo(), 0);
    }

    @Sentence(promise = 21, says = "each method that is a change, and returns no error, records the state before it")
    static void eachChangeIsUndone() {
        Consumer<ExcuseTariffs> before = BoundariesOfUndo::busy;
        Consumer<ExcuseTariffs> text = before.andThen(x -> x.wipe()).andThen(x -> putText(x, "8am99,9bm31w2,8bm1"));
        undone("set", before.andThen(x -> due("set", x.set(WEARS, 7), 25)), before);
        undone("add", before.andThen(x -> due("add", x.add(4, 9), 2)), before);
        undone("worth", before.andThen(x -> due("worth", x.worth(1, 9), 80)), before);
        undone("a stamp", before.andThen(x -> due("offer", x.offer(9, 1, 1, 99), 0)), before);
        undone("refused for 1", before.andThen(x -> due("offer", x.offer(4, 1, 1, 99), 1)), before);
        undone("refused for 4", before.andThen(x -> due("offer", x.offer(5, 1, 1, 99), 4)), before);
        undone("pay", before.andThen(x -> due("pay", x.pay(0, 150), 0)), before);
        undone("endTerm", before.andThen(x -> due("endTerm", x.endTerm(), 2)), before);
        undone("read", text.andThen(x -> due("read", x.read(), 2)), before);
        undone("restore", before.andThen(x -> due("restore", x.restore(1), 0)), before);
    }

    private static void undone(String what, Consumer<ExcuseTariffs> withAChange, Consumer<ExcuseTariffs> without) {
        sameSchool("undo of " + what, pictureAfter(withAChange.andThen(x -> x.undo())), pictureAfter(without));
        ExcuseTariffs x = new ExcuseTariffs();
        withAChange.accept(x);
        due("changes after " + what, x.count(19), 6);
        due("undo of " + what, x.undo(), 5);
    }

    @Sentence(promise = 21, says = "everything except the pad, the slots and the history is as it was before it.")
    static void undoLeavesThePadAndTheSlots() {
        ExcuseTariffs x = new ExcuseTariffs();
        x.add(0, 50);
        putText(x, "0am1,2bm");
        x.endTerm();
        x.save(0);
        due("undo", x.undo(), 1);
        due("terms", x.count(14), 0);
        due("the pad", x.count(18), 8);
        due("its text", x.fault(), 8);
        due("the slot", x.restore(0), 1);
        due("undo", x.undo(), 1);
        due("the slot once more", x.restore(0), 1);
        x.wipe();
        due("undo", x.undo(), 1);
        due("a pad that was wiped stays empty", x.count(18), 0);
        putText(x, "0am1");
        due("read", x.read(), 1);
        due("undo", x.undo(), 1);
        due("what was read does not come back", x.count(18), 0);
    }

    @Sentence(promise = 21, says = "everything except the pad, the slots and the history is as it was before it.")
    static void undoOfTheListOfExcuses() {
        ExcuseTariffs x = new ExcuseTariffs();
        x.add(4, 50);
        x.save(0);
        x.undo();
        due("number 0 again", x.add(1, 60), 0);
        due("kind", x.excuse(0, 0), 1);
        due("worth", x.excuse(0, 1), 60);
        x.restore(0);
        due("kind of the saved one", x.excuse(0, 0), 4);
        due("worth of the saved one", x.excuse(0, 1), 50);
        x.undo();
        due("kind", x.excuse(0, 0), 1);
        due("worth", x.excuse(0, 1), 60);
    }

    @Sentence(promise = 21, says = "each method that is a change, and returns no error")
    static void whatIsNoChange() {
        ExcuseTariffs x = new ExcuseTariffs();
        x.add(0, 50);
        putText(x, "0am1");
        x.fault();
        x.save(0);
        x.save(1);
        x.excuse(0, 0);
        x.pupil(0, 0);
        x.novelty(0, 0);
        x.why(0, 0, NONE, 1);
        x.weight(0, 0, NONE, 1);
        x.count(0);
        x.bestExcuse(0, 1);
        x.bestWitness(0, 0, 1);
        x.mostMinutes(0, 0);
        x.wipe();
        due("only add", x.count(19), 1);
        due("undo of add", x.undo(), 0);
        due("undo is no change", x.count(19), 0);
    }

    // ---- promise 22

    @Sentence(promise = 22, says = "- `slot`: 0 or 1")
    static void slotsOfSave() {
        ExcuseTariffs x = new ExcuseTariffs();
        for (int slot : new int[] {MIN, NONE, -1, 2, 3, MAX}) {
            due("slot " + slot, x.save(slot), BAD_VALUE);
        }
        due("slot 0 is still empty", x.restore(0), NOT_POSSIBLE);
        due("slot 1 is still empty", x.restore(1), NOT_POSSIBLE);
        due("slot 0", x.save(0), 0);
        due("slot 1 is not slot 0", x.restore(1), NOT_POSSIBLE);
        due("slot 1", x.save(1), 0);
        due("slot 0", x.restore(0), 0);
        due("slot 1", x.restore(1), 0);
    }

    @Sentence(promise = 22, says = "Returns how many terms have ended; BAD_VALUE if there is no such slot.")
    static void termsOfSave() {
        ExcuseTariffs x = new ExcuseTariffs();
        due("first term", x.save(0), 0);
        for (int term = 1; term <= 20; term++) {
            x.endTerm();
            due("term", x.save(term % 2), term);
        }
        x.undo();
        due("after an undo", x.save(0), 19);
        due("no slot", x.save(2), BAD_VALUE);
    }

    @Sentence(promise = 22, says = "and overwrites what was saved there.")
    static void saveOverwrites() {
        ExcuseTariffs x = new ExcuseTariffs();
        x.add(0, 50);
        x.save(0);
        x.worth(0, 60);
        x.save(1);
        x.worth(0, 70);
        x.save(0);
        x.worth(0, 80);
        x.restore(0);
        due("slot 0, written twice", x.excuse(0, 1), 70);
        x.restore(1);
        due("slot 1, written once", x.excuse(0, 1), 60);
        x.save(0);
        x.restore(0);
        due("slot 0, written from slot 1", x.excuse(0, 1), 60);
        ExcuseTariffs y = new ExcuseTariffs();
        y.add(4, 99);
        y.save(0);
        y.undo();
        y.save(0);
        y.add(3, 1);
        y.restore(0);
        due("a school without excuses", y.count(5), 0);
    }

    @Sentence(promise = 22, says = "Saves everything except the pad, the history and the slots in a slot")
    static void whatIsNotSaved() {
        ExcuseTariffs x = new ExcuseTariffs();
        x.add(0, 50);
        putText(x, "0am1,");
        x.save(0);
        due("saving leaves the pad", x.count(18), 5);
        due("saving leaves the history", x.count(19), 1);
        x.put('1');
        x.worth(0, 60);
        x.save(1);
        x.worth(0, 70);
        x.restore(0);
        due("the pad does not come back", x.count(18), 6);
        due("the history does not come back", x.count(19), 4);
        x.restore(1);
        due("nor does a slot", x.excuse(0, 1), 60);
        due("undo", x.undo(), 4);
        due("undo", x.undo(), 3);
        due("what was before restore", x.excuse(0, 1), 70);
    }

    // ---- promise 23

    @Sentence(promise = 23, says = "- `slot`: 0 or 1")
    static void slotsOfRestore() {
        ExcuseTariffs x = new ExcuseTariffs();
        x.save(0);
        x.save(1);
        for (int slot : new int[] {MIN, NONE, -1, 2, 3, MAX}) {
            due("slot " + slot, x.restore(slot), BAD_VALUE);
        }
        due("slot 0", x.restore(0), 0);
        due("slot 1", x.restore(1), 0);
    }

    @Sentence(promise = 23, says = "Returns how many terms have ended then; BAD_VALUE if there is no such slot; NOT_POSSIBLE if"
            + " nothing was saved in it.")
    static void restoreOfNothing() {
        ExcuseTariffs x = new ExcuseTariffs();
        due("slot 0", x.restore(0), NOT_POSSIBLE);
        due("slot 1", x.restore(1), NOT_POSSIBLE);
        due("slot 2", x.restore(2), BAD_VALUE);
        x.endTerm();
        x.save(1);
        due("slot 0", x.restore(0), NOT_POSSIBLE);
        x.endTerm();
        due("slot 1", x.restore(1), 1);
        x.undo();
        x.undo();
        x.undo();
        due("no change is left", x.count(19), 0);
        due("slot 0", x.restore(0), NOT_POSSIBLE);
        due("slot 1, saved in a term that was undone", x.restore(1), 1);
    }

    @Sentence(promise = 23, says = "Restores what was saved last in a slot, which keeps it.")
    static void restoreKeepsTheSlot() {
        Consumer<ExcuseTariffs> saved = x -> {
            busy(x);
            x.save(0);
        };
        Consumer<ExcuseTariffs> changed = saved.andThen(BoundariesOfUndo::changeEverything);
        Consumer<ExcuseTariffs> once = changed.andThen(x -> due("restore", x.restore(0), 1));
        Consumer<ExcuseTariffs> twice = once.andThen(BoundariesOfUndo::changeEverything)
                .andThen(x -> due("restore", x.restore(0), 1));
        int[] due = pictureAfter(BoundariesOfUndo::busy);
        sameSchool("restored", pictureAfter(once), due);
        sameSchool("restored twice", pictureAfter(twice), due);
        sameSchool("undone", pictureAfter(once.andThen(x -> x.undo())), pictureAfter(changed));
    }

    private static void changeEverything(ExcuseTariffs x) {
        for (int setting = 0; setting < 5; setting++) {
            x.set(setting, 9);
        }
        x.add(2, 99);
        x.worth(0, 98);
        for (int p = 0; p < 10; p++) {
            x.offer(p, 2, (p + 3) % 10, 99);
            x.offer(p, 0, (p + 2) % 10, 99);
            x.offer(p, 0, (p + 4) % 10, 99);
            x.pay(p, 1);
        }
        x.endTerm();
        x.offer(9, 2, 0, 31);
    }

    @Sentence(promise = 23, says = "This is a change.")
    static void restoreIsAChange() {
        ExcuseTariffs x = new ExcuseTariffs();
        x.save(0);
        for (int change = 1; change <= 7; change++) {
            due("restore", x.restore(0), 0);
            due("changes", x.count(19), Math.min(6, change));
        }
        x.endTerm();
        x.restore(0);
        due("terms", x.count(14), 0);
        due("undo", x.undo(), 5);
        due("terms", x.count(14), 1);
    }
}
