/** The boundary cases of promises 8 and 18 to 20: the pad, its fault, and the offers that are read from it. */
final class BoundariesOfTexts extends Checks {
    /** 60 characters, twelve offers. */
    private static final String FULL = "0am1,1am1,2am1,3am1,4am1,5am1,6am1,7am1,8am1,9am1,0bm1,1bm31";

    // ---- promise 8

    @Sentence(promise = 8, says = "Returns how many get a stamp; BAD_TEXT if the pad has a fault.")
    static void readOfAFault() {
        ExcuseTariffs x = easySchool();
        String[] faults = {"", "0", "0a", "0am", "0am0", "0am1w", "0am1w0", "0am1,", "0am1,1am1,2", "0am100", "x"};
        for (String text : faults) {
            putText(x, text);
            due("read of " + text, x.read(), BAD_TEXT);
            due("the pad stays", x.count(18), text.length());
            due("no offer is made", x.count(6), 0);
            x.wipe();
        }
        due("changes", x.count(19), 5);
    }

    @Sentence(promise = 8, says = "and empties the pad")
    static void readEmptiesThePad() {
        ExcuseTariffs x = easySchool();
        putText(x, FULL);
        due("twelve stamps", x.read(), 12);
        due("length", x.count(18), 0);
        due("fault", x.fault(), 0);
        due("an empty pad has a fault", x.read(), BAD_TEXT);
        due("stamps", x.count(6), 12);
        putText(x, FULL);
        due("there is room for a full pad", x.count(18), 60);
    }

    @Sentence(promise = 8, says = "Returns how many get a stamp")
    static void fromNoStampToTwelve() {
        ExcuseTariffs x = easySchool();
        putText(x, FULL);
        due("all", x.read(), 12);
        due("31 minutes of the last", x.pupil(1, 6), 1);
        putText(x, "0bm1,1bm1");
        due("none", x.read(), 0);
        due("refused", x.count(8), 2);
        putText(x, "0am1");
        due("one of one", x.read(), 1);
        putText(x, "0am1,0bm1");
        due("one of two", x.read(), 1);
    }

    @Sentence(promise = 8, says = "one of an excuse that there is not is passed over.")
    static void passedOver() {
        ExcuseTariffs x = easySchool();
        putText(x, "0am1,0cm99w9,1bm1,1lm31,0bm1");
        due("three of five", x.read(), 3);
        due("refused", x.pupil(0, 3) + x.pupil(1, 3), 0);
        due("no fine", x.count(11), 0);
        due("no grudge", x.count(16), 0);
        due("credit", x.pupil(9, 0), 5);
        due("latest kind", x.pupil(1, 4), 1);
        putText(x, "5cm1,5lm1");
        due("none is left", x.read(), 0);
        due("the pad is empty", x.count(18), 0);
        due("a change", x.count(19), 6);
        due("latest kind", x.pupil(5, 4), NONE);
    }

    @Sentence(promise = 8, says = "one of an excuse that there is not is passed over.")
    static void firstAndLastExcuseOfTheList() {
        ExcuseTariffs x = school(99, 99, 99, 99, 99, 99, 99, 99, 99, 99, 99);
        putText(x, "0am1,1km1,2lm1");
        due("l is not there", x.read(), 2);
        x.add(1, 99);
        putText(x, "2lm1");
        due("now it is", x.read(), 1);
        due("uses of 0", x.excuse(0, 2), 1);
        due("uses of 10", x.excuse(10, 2), 1);
        due("uses of 11", x.excuse(11, 2), 1);
        ExcuseTariffs y = new ExcuseTariffs();
        putText(y, "0am1");
        due("an empty list", y.read(), 0);
        due("the pad is empty", y.count(18), 0);
        due("a change", y.count(19), 1);
    }

    @Sentence(promise = 8, says = "Makes the offers of the pad, one after the other")
    static void eachOfferMeetsWhatTheOnesBeforeLeft() {
        ExcuseTariffs x = school(99, 99, 1);
        x.set(WEARS, 0);
        x.set(LIMIT, 1);
        putText(x, "0am1w9,0am2,1am1w9,2am1w9,1am3,3cm1w9,4am1w9,4bm4");
        // Stamp 4; used up; stamp 3 at 99 less 4; stamp 2; used up; too light, credit 0; no credit; stamp.
        due("stamps", x.read(), 4);
        due("reason 1", x.count(7), 2);
        due("reason 2", x.count(8), 0);
        due("reason 3", x.count(9), 1);
        due("reason 4", x.count(10), 1);
        due("credit", x.pupil(9, 0), 0);
        due("fines", x.count(11), 10 + 15 + 5 + 5);
        due("grudge of master 0", x.pupil(0, 6), 2);
        due("grudge of master 1", x.pupil(2, 6), 1);
        due("grudge of master 2", x.pupil(4, 6), 1);
        due("latest kind", x.pupil(4, 4), 1);
    }

    @Sentence(promise = 8, says = "Makes the offers of the pad")
    static void leastAndMostMinutesOfThePad() {
        ExcuseTariffs x = school(1);
        x.set(FINE, 1);
        int[] minutes = {1, 9, 10, 11, 19, 20, 90, 98, 99};
        for (int p = 0; p < minutes.length; p++) {
            putText(x, p + "am" + minutes[p]);
            due("no stamp", x.read(), 0);
            due("fine", x.pupil(p, 1), minutes[p]);
        }
        due("all", x.count(11), 357);
    }

    @Sentence(promise = 8, says = "Makes the offers of the pad")
    static void firstAndLastPupilAndWitness() {
        ExcuseTariffs x = easySchool();
        putText(x, "9am1w0,0am1w9,1bm1,8bm1w0");
        due("stamps", x.read(), 4);
        due("pupil 9", x.pupil(9, 2), 1);
        due("pupil 0", x.pupil(0, 2), 1);
        due("witness 9", x.pupil(9, 0), 4);
        due("witness 0, but not of the offer without one", x.pupil(0, 0), 3);
    }

    @Sentence(promise = 8, says = "offer = pupil excuse \"m\" minutes [ \"w\" witness ]")
    static void witnessOfOneOfferOnly() {
        ExcuseTariffs x = easySchool();
        putText(x, "0am1,1am1w9");
        due("without and with", x.read(), 2);
        due("one stood by", x.pupil(9, 0), 4);
        putText(x, "2am1w9,3am1");
        due("with and without", x.read(), 2);
        due("one stood by", x.pupil(9, 0), 3);
        putText(x, "4am1");
        due("without", x.read(), 1);
        due("nobody stood by", x.count(15), 48);
    }

    @Sentence(promise = 8, says = "This is a change.")
    static void readIsOneChange() {
        ExcuseTariffs x = easySchool();
        for (int undone = 0; undone < 5; undone++) {
            x.undo();
        }
        x.add(0, 99);
        putText(x, "0am1,1am2,2am3");
        due("three stamps", x.read(), 3);
        due("one change", x.count(19), 2);
        due("undone at once", x.undo(), 1);
        due("no stamp", x.count(6), 0);
        due("the pad stays empty", x.count(18), 0);
    }

    // ---- promise 18

    @Sentence(promise = 18, says = "- `characters`: 1 to 8 characters")
    static void fromOneToEightCharacters() {
        long characters = 0;
        for (int length = 1; length <= 8; length++) {
            characters = characters << 8 | 'a';
            ExcuseTariffs x = new ExcuseTariffs();
            due(length + " characters", x.put(characters), length);
            due("length", x.count(18), length);
        }
        ExcuseTariffs y = new ExcuseTariffs();
        due("no character", y.put(0), BAD_VALUE);
        due("eight of the highest code", y.put(packed("~~~~~~~~")), 8);
        due("eight of the lowest code", y.put(packed("!!!!!!!!")), 16);
    }

    @Sentence(promise = 18, says = "its lowest 8 bits are the last character, the next 8 bits the one before, and so on")
    static void orderOfTheCharacters() {
        String[] texts = {"0am1", "0am12w3", "9lm99w8,", "0am9", "1", "0bm77w5"};
        int[] faults = {NONE, NONE, 8, NONE, 1, NONE};
        for (int i = 0; i < texts.length; i++) {
            ExcuseTariffs x = new ExcuseTariffs();
            x.put(packed(texts[i]));
            due("fault of " + texts[i], x.fault(), faults[i]);
        }
        ExcuseTariffs y = new ExcuseTariffs();
        y.put(packed("9lm99w8,"));
        y.put(packed("8km88w9"));
        due("the next ones come behind", y.fault(), NONE);
        y.put('w');
        due("and the last behind them", y.fault(), 15);
    }

    @Sentence(promise = 18, says = "Returns the length of the pad then; BAD_VALUE if there is no character, a code is not 33 to 126,"
            + " or a bit above 8 bits that are 0 is not 0")
    static void codesAtEachPlace() {
        for (int place = 0; place < 8; place++) {
            for (int code : new int[] {1, 31, 32, 127, 128, 160, 161, 254, 255}) {
                long bad = packed("aaaaaaaa") & ~(255L << 8 * place) | (long) code << 8 * place;
                due("code " + code + " at " + place, new ExcuseTariffs().put(bad), BAD_VALUE);
            }
            for (int code : new int[] {33, 34, 125, 126}) {
                long good = packed("aaaaaaaa") & ~(255L << 8 * place) | (long) code << 8 * place;
                due("code " + code + " at " + place, new ExcuseTariffs().put(good), 8);
            }
        }
    }

    @Sentence(promise = 18, says = "a code is not 33 to 126")
    static void everyCodeAlone() {
        for (int code = 0; code <= 255; code++) {
            due("code " + code, new ExcuseTariffs().put(code), code >= 33 && code <= 126 ? 1 : BAD_VALUE);
        }
        due("-1", new ExcuseTariffs().put(-1), BAD_VALUE);
        due("256 is no character below and 1 above", new ExcuseTariffs().put(256), BAD_VALUE);
    }

    @Sentence(promise = 18, says = "8 bits that are 0 mean that there are no more characters, and everything above them has to be"
            + " 0, too.")
    static void bitsAboveTheEnd() {
        ExcuseTariffs x = new ExcuseTariffs();
        for (int length = 0; length <= 6; length++) {
            long characters = length == 0 ? 0 : packed("aaaaaaaa") >>> 8 * (8 - length);
            for (int bit = 8 * length + 8; bit < 64; bit++) {
                due(length + " characters and bit " + bit, x.put(characters | 1L << bit), BAD_VALUE);
            }
        }
        due("no character came", x.count(18), 0);
        due("the highest bit alone", x.put(Long.MIN_VALUE), BAD_VALUE);
        due("all bits but the highest", x.put(Long.MAX_VALUE), BAD_VALUE);
        due("seven and 8 bits that are 0", x.put(packed("aaaaaaa")), 7);
    }

    @Sentence(promise = 18, says = "TOO_MANY if the pad would be longer than 60.")
    static void longerThanSixty() {
        for (int length = 1; length <= 8; length++) {
            ExcuseTariffs x = new ExcuseTariffs();
            for (int before = 0; before < 60 - length; before++) {
                x.put('a');
            }
            long characters = packed("aaaaaaaa") >>> 8 * (8 - length);
            if (length < 8) {
                due("one too many", x.put(characters << 8 | 'b'), TOO_MANY);
            }
            due("nothing came", x.count(18), 60 - length);
            due("just enough", x.put(characters), 60);
            due("one more", x.put('a'), TOO_MANY);
            due("eight more", x.put(packed("aaaaaaaa")), TOO_MANY);
            due("full", x.count(18), 60);
        }
    }

    @Sentence(promise = 18, says = "or a bit above 8 bits that are 0 is not 0; TOO_MANY if the pad would be longer than 60.")
    static void badCharactersOfAFullPad() {
        ExcuseTariffs x = new ExcuseTariffs();
        putText(x, FULL);
        due("no character", x.put(0), BAD_VALUE);
        due("code 32", x.put(32), BAD_VALUE);
        due("code 127", x.put(127), BAD_VALUE);
        due("a gap", x.put(1L << 40 | 'a'), BAD_VALUE);
        due("a good one", x.put('a'), TOO_MANY);
        due("the text is as it was", x.fault(), NONE);
        due("read", x.read(), 0);
    }

    // ---- promise 19

    @Sentence(promise = 19, says = "Empties the pad, and returns the length that it had.")
    static void wipeOfNoneAndOfAFullPad() {
        ExcuseTariffs x = new ExcuseTariffs();
        due("an empty pad", x.wipe(), 0);
        x.put('a');
        due("one character", x.wipe(), 1);
        putText(x, FULL);
        due("a full pad", x.wipe(), 60);
        due("empty then", x.wipe(), 0);
        due("length", x.count(18), 0);
        due("fault", x.fault(), 0);
        putText(x, "7");
        due("nothing of the old text", x.fault(), 1);
        due("no change", x.undo(), NOT_POSSIBLE);
    }

    // ---- promise 20

    private static void faultOf(String text, int want) {
        ExcuseTariffs x = new ExcuseTariffs();
        putText(x, text);
        due("length of " + text, x.count(18), text.length());
        due("fault of " + text, x.fault(), want);
        due("length of " + text, x.count(18), text.length());
    }

    @Sentence(promise = 20, says = "Returns the fault of the pad, NONE if there is none.")
    static void noFault() {
        faultOf("0am1", NONE);
        faultOf("9lm99w0", NONE);
        faultOf("0am1w1,".replace('1', '2') + "2am2w0", NONE);
        faultOf(FULL, NONE);
        faultOf("0am1,0am1,0am1,0am1,0am1,0am1,0am1,0am1,0am1,0am1,0am1,0am1", NONE);
        faultOf("0am11w1,1bm22w2,2cm33w3,3dm44w4,4em55w5,5fm66w6,6gm77w7,7hm8", NONE);
    }

    @Sentence(promise = 20, says = "if there is none and the text ends too early (also if it is empty), it is the length of the text.")
    static void emptyPad() {
        faultOf("", 0);
        ExcuseTariffs x = new ExcuseTariffs();
        x.put('0');
        x.wipe();
        due("a pad that was wiped", x.fault(), 0);
    }

    @Sentence(promise = 20, says = "if there is none and the text ends too early")
    static void textsThatEndTooEarly() {
        for (String before : new String[] {"", "0am1,", "0am99w9,", "1bm1,2cm1w3,"}) {
            for (String early : new String[] {"", "5", "5f", "5fm", "5fm1w", "5fm10w"}) {
                faultOf(before + early, before.length() + early.length());
            }
            for (String whole : new String[] {"5fm1", "5fm10", "5fm1w6", "5fm10w6"}) {
                faultOf(before + whole, NONE);
            }
        }
        faultOf(FULL.substring(0, 59), NONE);
        faultOf(FULL.substring(0, 55) + "1bm1,", 60);
        faultOf(FULL.substring(0, 55) + "1bm1w", 60);
    }

    @Sentence(promise = 20, says = "The fault is the index of the first character that cannot stand at its place when the text is"
            + " read from left to right")
    static void firstOfManyFaults() {
        faultOf("!", 0);
        faultOf("!!!!", 0);
        faultOf("0!!!", 1);
        faultOf("0a!!", 2);
        faultOf("0am!", 3);
        faultOf("0am1!!", 4);
        faultOf("0am12!!", 5);
        faultOf("0am1w!!", 5);
        faultOf("0am1w2!!", 6);
        faultOf("0am1,!!", 5);
        faultOf(FULL.substring(0, 59) + "!", 59);
        faultOf("!" + FULL.substring(1), 0);
    }

    @Sentence(promise = 20, says = "a pupil and a witness are digits, an excuse a letter a to l (0 to 11)")
    static void charactersBesideTheRanges() {
        faultOf("/am1", 0);
        faultOf(":am1", 0);
        faultOf("aam1", 0);
        faultOf("0`m1", 1);
        faultOf("0mm1", 1);
        faultOf("0Am1", 1);
        faultOf("00m1", 1);
        faultOf("0aM1", 2);
        faultOf("0al1", 2);
        faultOf("0an1", 2);
        faultOf("0az1", 2);
        faultOf("0am1W2", 4);
        faultOf("0am1v2", 4);
        faultOf("0am1x2", 4);
        faultOf("0am1w/", 5);
        faultOf("0am1w:", 5);
        faultOf("0am1wa", 5);
        faultOf("0am1-1am1", 4);
        faultOf("0am1+1am1", 4);
        faultOf("0lm1w9", NONE);
        faultOf("9am1w0", NONE);
    }

    @Sentence(promise = 20, says = "minutes a number from 1 to 99 without leading zeros")
    static void minutesOfAText() {
        faultOf("0am0", 3);
        faultOf("0am01", 3);
        faultOf("0am00", 3);
        faultOf("0am-1", 3);
        faultOf("0am/", 3);
        faultOf("0am:", 3);
        faultOf("0am1/", 4);
        faultOf("0am1:", 4);
        faultOf("0am100", 5);
        faultOf("0am999", 5);
        faultOf("0am1000", 5);
        faultOf("0am,1am1", 3);
        faultOf("0amw1", 3);
        for (int minutes = 1; minutes <= 99; minutes++) {
            faultOf("0am" + minutes, NONE);
        }
    }

    @Sentence(promise = 20, says = "(also of a witness who is the pupil)")
    static void witnessWhoIsThePupil() {
        for (int p = 0; p < 10; p++) {
            for (int w = 0; w < 10; w++) {
                faultOf(p + "am1w" + w, p == w ? 5 : NONE);
                faultOf(w + "lm99," + p + "am10w" + w + ",", p == w ? 12 : 14);
            }
        }
        faultOf("1am1w2,2am1w2", 12);
        faultOf("1am1w2,2am1w1", NONE);
        faultOf("1am1w11", 5);
        faultOf("1am1w21", 6);
    }

    @Sentence(promise = 20, says = "offers: text = offer { \",\" offer }; offer = pupil excuse \"m\" minutes [ \"w\" witness ]")
    static void commasBetweenOffers() {
        faultOf(",", 0);
        faultOf(",0am1", 0);
        faultOf("0am1,,1am1", 5);
        faultOf("0am1w2,,", 7);
        faultOf("0am1w,", 5);
        faultOf("0,", 1);
        faultOf("0a,", 2);
        faultOf("0am10am1", 5);
        faultOf("0am1w2w3", 6);
        faultOf("0am1w23am1", 6);
    }

    @Sentence(promise = 20, says = "The pad is a text of at most 60 characters")
    static void faultOfAFullPad() {
        ExcuseTariffs x = new ExcuseTariffs();
        putText(x, FULL);
        due("fault", x.fault(), NONE);
        due("a 61st character", x.put(','), TOO_MANY);
        due("fault", x.fault(), NONE);
        due("excuses that there are not are no fault", x.read(), 0);
    }
}
