/** The tariff of excuses of a mill school: offers, stamps, fines, grudges, terms, texts, undo and saved states. */
public final class ExcuseTariffs {
    public static final int NO_SUCH = -1, BAD_VALUE = -2, BAD_TEXT = -3, TOO_MANY = -4, NOT_POSSIBLE = -5, NONE = -6;
    public static final int NEEDS = 0, WEARS = 1, LIMIT = 2, FINE = 3, GRUDGE = 4;

    private static final int[] FIRST_SETTINGS = {40, 25, 3, 5, 4};
    private static final int[] LEAST_SETTINGS = {1, 0, 1, 1, 0};
    private static final int[] MOST_SETTINGS = {99, 50, 9, 60, 20};

    private static final int EXCUSES = 12;
    private static final int KINDS = 5;
    private static final int MOST_WORTH = 99;
    private static final int PUPILS = 10;
    private static final int MASTERS = 5;
    private static final int FIRST_CREDIT = 5;
    private static final int MOST_CREDIT = 9;
    private static final int MOST_GRUDGE = 9;
    private static final int MOST_MINUTES = 99;
    private static final int LONG_MINUTES = 30;
    private static final int MOST_PENCE = 9999;
    private static final int PAD_LENGTH = 60;
    private static final int PUT_LENGTH = 8;
    private static final int HISTORY_LENGTH = 6;
    private static final int SLOTS = 2;

    private static final int STAMP = 0;
    private static final int USED_UP = 1;
    private static final int SAME_KIND = 2;
    private static final int NO_CREDIT = 3;
    private static final int TOO_LIGHT = 4;

    /** What a check of arguments answers when no error applies. */
    private static final int NO_ERROR = 0;

    private final School school;
    private final History history;
    private final School[] slots;
    private final boolean[] saved;
    private final Pad pad;
    private final Reader reader;

    public ExcuseTariffs() {
        school = new School();
        history = new History();
        slots = new School[SLOTS];
        for (int slot = 0; slot < SLOTS; slot++) {
            slots[slot] = new School();
        }
        saved = new boolean[SLOTS];
        pad = new Pad();
        reader = new Reader();
    }

    // ---- changes

    public int set(int setting, int value) {
        if (!isWithin(setting, 0, FIRST_SETTINGS.length - 1)) {
            return BAD_VALUE;
        }
        if (!isWithin(value, LEAST_SETTINGS[setting], MOST_SETTINGS[setting])) {
            return BAD_VALUE;
        }
        history.keep(school);
        int previous = school.settings[setting];
        school.settings[setting] = value;
        return previous;
    }

    public int add(int kind, int worth) {
        if (!isWithin(kind, 0, KINDS - 1) || !isWithin(worth, 1, MOST_WORTH)) {
            return BAD_VALUE;
        }
        if (school.excuses >= EXCUSES) {
            return TOO_MANY;
        }
        history.keep(school);
        return school.addExcuse(kind, worth);
    }

    public int worth(int excuse, int worth) {
        if (!school.hasExcuse(excuse)) {
            return NO_SUCH;
        }
        if (!isWithin(worth, 1, MOST_WORTH)) {
            return BAD_VALUE;
        }
        history.keep(school);
        int previous = school.worths[excuse];
        school.worths[excuse] = worth;
        return previous;
    }

    public int offer(int pupil, int excuse, int witness, int minutes) {
        int error = offerError(pupil, excuse, witness, minutes);
        if (error != NO_ERROR) {
            return error;
        }
        history.keep(school);
        return school.takeOffer(pupil, excuse, witness, minutes);
    }

    public int pay(int pupil, int pence) {
        if (!isPupil(pupil)) {
            return NO_SUCH;
        }
        if (!isWithin(pence, 1, MOST_PENCE)) {
            return BAD_VALUE;
        }
        if (school.fines[pupil] < pence) {
            return NOT_POSSIBLE;
        }
        history.keep(school);
        school.fines[pupil] -= pence;
        school.paid[pupil] += pence;
        return school.fines[pupil];
    }

    public int endTerm() {
        history.keep(school);
        int stamps = sum(school.uses);
        school.beginNextTerm();
        return stamps;
    }

    public int read() {
        if (fault() != NONE) {
            return BAD_TEXT;
        }
        history.keep(school);
        int stamps = 0;
        reader.begin();
        for (int i = 0; i < pad.length; i++) {
            if (pad.characters[i] == ',') {
                stamps += stampsForWhatWasRead();
            }
            reader.takes(pad.characters[i]);
        }
        stamps += stampsForWhatWasRead();
        pad.length = 0;
        return stamps;
    }

    // ---- what there is; nothing changes

    public int excuse(int excuse, int what) {
        if (!school.hasExcuse(excuse)) {
            return NO_SUCH;
        }
        switch (what) {
            case 0:
                return school.kinds[excuse];
            case 1:
                return school.worths[excuse];
            case 2:
                return school.usesBySchool(excuse);
            case 3:
                return school.usesInAllTerms[excuse];
            case 4:
                return school.usersOf(excuse);
            default:
                return BAD_VALUE;
        }
    }

    public int pupil(int pupil, int what) {
        if (!isPupil(pupil)) {
            return NO_SUCH;
        }
        switch (what) {
            case 0:
                return school.credits[pupil];
            case 1:
                return school.fines[pupil];
            case 2:
                return school.stamps[pupil];
            case 3:
                return school.refusals[pupil];
            case 4:
                return school.latestKinds[pupil];
            case 5:
                return school.usesByPupil(pupil);
            case 6:
                return school.grudges[classOf(pupil)];
            case 7:
                return school.paid[pupil];
            default:
                return BAD_VALUE;
        }
    }

    public int novelty(int pupil, int excuse) {
        if (!isPupil(pupil) || !school.hasExcuse(excuse)) {
            return NO_SUCH;
        }
        return school.noveltyFor(pupil, excuse);
    }

    public int why(int pupil, int excuse, int witness, int minutes) {
        int error = offerError(pupil, excuse, witness, minutes);
        if (error != NO_ERROR) {
            return error;
        }
        return school.reasonAgainst(pupil, excuse, witness, minutes);
    }

    public int weight(int pupil, int excuse, int witness, int minutes) {
        int error = offerError(pupil, excuse, witness, minutes);
        if (error != NO_ERROR) {
            return error;
        }
        return 1000 + school.weightOf(pupil, excuse, witness, minutes);
    }

    public int count(int what) {
        if (isWithin(what, 0, FIRST_SETTINGS.length - 1)) {
            return school.settings[what];
        }
        switch (what) {
            case 5:
                return school.excuses;
            case 6:
                return sum(school.stamps);
            case 7:
            case 8:
            case 9:
            case 10:
                return school.refusedFor[what - 7 + USED_UP];
            case 11:
                return sum(school.fines);
            case 12:
                return sum(school.paid);
            case 13:
                return sum(school.fines) + sum(school.paid);
            case 14:
                return school.termsEnded;
            case 15:
                return sum(school.credits);
            case 16:
                return sum(school.grudges);
            case 17:
                return school.wornOutExcuses();
            case 18:
                return pad.length;
            case 19:
                return history.kept;
            default:
                return BAD_VALUE;
        }
    }

    // ---- what if; nothing changes

    public int bestExcuse(int pupil, int minutes) {
        if (!isPupil(pupil)) {
            return NO_SUCH;
        }
        if (!isWithin(minutes, 1, MOST_MINUTES)) {
            return BAD_VALUE;
        }
        int best = NONE;
        int bestWeight = 0;
        for (int excuse = 0; excuse < school.excuses; excuse++) {
            if (school.reasonAgainst(pupil, excuse, NONE, minutes) == STAMP) {
                int weight = school.weightOf(pupil, excuse, NONE, minutes);
                if (best == NONE || weight > bestWeight) {
                    best = excuse;
                    bestWeight = weight;
                }
            }
        }
        return best;
    }

    public int bestWitness(int pupil, int excuse, int minutes) {
        if (!isPupil(pupil) || !school.hasExcuse(excuse)) {
            return NO_SUCH;
        }
        if (!isWithin(minutes, 1, MOST_MINUTES)) {
            return BAD_VALUE;
        }
        int best = NONE;
        int bestWeight = 0;
        for (int witness = 0; witness < PUPILS; witness++) {
            if (witness != pupil && school.credits[witness] > 0) {
                int weight = school.weightOf(pupil, excuse, witness, minutes);
                if (best == NONE || weight > bestWeight) {
                    best = witness;
                    bestWeight = weight;
                }
            }
        }
        return best;
    }

    public int mostMinutes(int pupil, int excuse) {
        if (!isPupil(pupil) || !school.hasExcuse(excuse)) {
            return NO_SUCH;
        }
        for (int minutes = MOST_MINUTES; minutes >= 1; minutes--) {
            if (school.reasonAgainst(pupil, excuse, NONE, minutes) == STAMP) {
                return minutes;
            }
        }
        return NONE;
    }

    // ---- texts

    public int put(long characters) {
        int more = charactersIn(characters);
        if (more == 0) {
            return BAD_VALUE;
        }
        if (pad.length + more > PAD_LENGTH) {
            return TOO_MANY;
        }
        for (int i = more - 1; i >= 0; i--) {
            pad.append((char) codeAt(characters, i));
        }
        return pad.length;
    }

    public int wipe() {
        int length = pad.length;
        pad.length = 0;
        return length;
    }

    public int fault() {
        reader.begin();
        for (int i = 0; i < pad.length; i++) {
            if (!reader.takes(pad.characters[i])) {
                return i;
            }
        }
        return reader.canEnd() ? NONE : pad.length;
    }

    // ---- undo, saving

    public int undo() {
        if (history.kept == 0) {
            return NOT_POSSIBLE;
        }
        history.takeBack(school);
        return history.kept;
    }

    public int save(int slot) {
        if (!isWithin(slot, 0, SLOTS - 1)) {
            return BAD_VALUE;
        }
        slots[slot].become(school);
        saved[slot] = true;
        return school.termsEnded;
    }

    public int restore(int slot) {
        if (!isWithin(slot, 0, SLOTS - 1)) {
            return BAD_VALUE;
        }
        if (!saved[slot]) {
            return NOT_POSSIBLE;
        }
        history.keep(school);
        school.become(slots[slot]);
        return school.termsEnded;
    }

    // ---- what the methods above share

    /** NO_ERROR, or the first error that applies to the arguments of an offer. */
    private int offerError(int pupil, int excuse, int witness, int minutes) {
        if (!isPupil(pupil) || !school.hasExcuse(excuse)) {
            return NO_SUCH;
        }
        if (witness != NONE && !isPupil(witness)) {
            return NO_SUCH;
        }
        if (!isWithin(minutes, 1, MOST_MINUTES) || witness == pupil) {
            return BAD_VALUE;
        }
        return NO_ERROR;
    }

    /** Makes the offer that the reader has just read to its end; 1 if it gets a stamp, else 0. */
    private int stampsForWhatWasRead() {
        if (!school.hasExcuse(reader.excuse)) {
            return 0;
        }
        int answer = school.takeOffer(reader.pupil, reader.excuse, reader.witness, reader.minutes);
        return answer == STAMP ? 1 : 0;
    }

    /** How many characters a number gives to the pad; 0 if it is no such number. */
    private static int charactersIn(long characters) {
        for (int i = 0; i < PUT_LENGTH; i++) {
            int code = codeAt(characters, i);
            if (code == 0) {
                return characters >>> (8 * i) == 0 ? i : 0;
            }
            if (!isWithin(code, 33, 126)) {
                return 0;
            }
        }
        return PUT_LENGTH;
    }

    private static int codeAt(long characters, int fromTheLast) {
        return (int) (characters >>> (8 * fromTheLast)) & 255;
    }

    private static boolean isPupil(int pupil) {
        return isWithin(pupil, 0, PUPILS - 1);
    }

    private static boolean isWithin(int value, int least, int most) {
        return value >= least && value <= most;
    }

    private static int classOf(int pupil) {
        return pupil / 2;
    }

    private static int sum(int[] row) {
        int sum = 0;
        for (int i = 0; i < row.length; i++) {
            sum += row[i];
        }
        return sum;
    }

    private static void copy(int[] from, int[] to) {
        System.arraycopy(from, 0, to, 0, Math.min(from.length, to.length));
    }

    /** All that undo() and restore() bring back. Its rows are made once, so that a copy makes no object. */
    private static final class School {
        final int[] settings = new int[FIRST_SETTINGS.length];
        int excuses = 0;
        final int[] kinds = new int[EXCUSES];
        final int[] worths = new int[EXCUSES];
        final int[] usesInAllTerms = new int[EXCUSES];
        /** The uses in this term, a row of EXCUSES for each pupil; those of classes and school are their sums. */
        final int[] uses = new int[PUPILS * EXCUSES];
        final int[] credits = new int[PUPILS];
        final int[] fines = new int[PUPILS];
        final int[] paid = new int[PUPILS];
        final int[] stamps = new int[PUPILS];
        final int[] refusals = new int[PUPILS];
        final int[] latestKinds = new int[PUPILS];
        final int[] grudges = new int[MASTERS];
        /** By reason; STAMP stays 0. */
        final int[] refusedFor = new int[TOO_LIGHT + 1];
        int termsEnded = 0;

        School() {
            copy(FIRST_SETTINGS, settings);
            for (int pupil = 0; pupil < PUPILS; pupil++) {
                credits[pupil] = FIRST_CREDIT;
                latestKinds[pupil] = NONE;
            }
        }

        void become(School other) {
            copy(other.settings, settings);
            excuses = other.excuses;
            copy(other.kinds, kinds);
            copy(other.worths, worths);
            copy(other.usesInAllTerms, usesInAllTerms);
            copy(other.uses, uses);
            copy(other.credits, credits);
            copy(other.fines, fines);
            copy(other.paid, paid);
            copy(other.stamps, stamps);
            copy(other.refusals, refusals);
            copy(other.latestKinds, latestKinds);
            copy(other.grudges, grudges);
            copy(other.refusedFor, refusedFor);
            termsEnded = other.termsEnded;
        }

        boolean hasExcuse(int excuse) {
            return excuse >= 0 && excuse < excuses;
        }

        int addExcuse(int kind, int worth) {
            kinds[excuses] = kind;
            worths[excuses] = worth;
            excuses++;
            return excuses - 1;
        }

        int usesOf(int pupil, int excuse) {
            return uses[pupil * EXCUSES + excuse];
        }

        int usesByPupil(int pupil) {
            int sum = 0;
            for (int excuse = 0; excuse < EXCUSES; excuse++) {
                sum += usesOf(pupil, excuse);
            }
            return sum;
        }

        int usesByClass(int master, int excuse) {
            int first = 2 * master * EXCUSES + excuse;
            return uses[first] + uses[first + EXCUSES];
        }

        int usesBySchool(int excuse) {
            int sum = 0;
            for (int i = excuse; i < uses.length; i += EXCUSES) {
                sum += uses[i];
            }
            return sum;
        }

        int usersOf(int excuse) {
            int users = 0;
            for (int pupil = 0; pupil < PUPILS; pupil++) {
                if (usesOf(pupil, excuse) > 0) {
                    users |= 1 << pupil;
                }
            }
            return users;
        }

        int noveltyFor(int pupil, int excuse) {
            int worn = settings[WEARS] * (usesBySchool(excuse) + usesByClass(classOf(pupil), excuse));
            return Math.max(0, 100 - worn);
        }

        int wornOutExcuses() {
            int worn = 0;
            for (int excuse = 0; excuse < excuses; excuse++) {
                if (isWornOut(excuse)) {
                    worn++;
                }
            }
            return worn;
        }

        boolean isWornOut(int excuse) {
            for (int pupil = 0; pupil < PUPILS; pupil++) {
                if (noveltyFor(pupil, excuse) > 0) {
                    return false;
                }
            }
            return true;
        }

        int weightOf(int pupil, int excuse, int witness, int minutes) {
            int weight = worths[excuse] * noveltyFor(pupil, excuse) / 100;
            weight -= settings[GRUDGE] * grudges[classOf(pupil)];
            weight -= minutes / 10;
            if (witness != NONE) {
                weight += standingOf(witness, pupil);
            }
            return weight;
        }

        /** What a witness brings to the weight: a master believes less of one who sits beside the pupil. */
        int standingOf(int witness, int pupil) {
            if (classOf(witness) == classOf(pupil)) {
                return Math.max(0, credits[witness] - 2);
            }
            return credits[witness];
        }

        int reasonAgainst(int pupil, int excuse, int witness, int minutes) {
            if (usesOf(pupil, excuse) >= settings[LIMIT]) {
                return USED_UP;
            }
            if (latestKinds[pupil] == kinds[excuse]) {
                return SAME_KIND;
            }
            if (witness != NONE && credits[witness] == 0) {
                return NO_CREDIT;
            }
            if (weightOf(pupil, excuse, witness, minutes) < settings[NEEDS]) {
                return TOO_LIGHT;
            }
            return STAMP;
        }

        /** Makes an offer; STAMP, or the reason why it is refused. */
        int takeOffer(int pupil, int excuse, int witness, int minutes) {
            int reason = reasonAgainst(pupil, excuse, witness, minutes);
            if (reason == STAMP) {
                stamp(pupil, excuse, witness, minutes);
            } else {
                refuse(pupil, witness, minutes, reason);
            }
            latestKinds[pupil] = kinds[excuse];
            return reason;
        }

        void stamp(int pupil, int excuse, int witness, int minutes) {
            uses[pupil * EXCUSES + excuse]++;
            usesInAllTerms[excuse]++;
            stamps[pupil]++;
            takeCredit(witness, 1);
            if (minutes > LONG_MINUTES) {
                angerMasterOf(pupil);
            }
        }

        void refuse(int pupil, int witness, int minutes, int reason) {
            fines[pupil] += settings[FINE] * minutes;
            refusals[pupil]++;
            refusedFor[reason]++;
            angerMasterOf(pupil);
            if (reason == TOO_LIGHT) {
                takeCredit(witness, 2);
            }
        }

        void takeCredit(int witness, int credit) {
            if (witness != NONE) {
                credits[witness] = Math.max(0, credits[witness] - credit);
            }
        }

        void angerMasterOf(int pupil) {
            int master = classOf(pupil);
            grudges[master] = Math.min(MOST_GRUDGE, grudges[master] + 1);
        }

        void beginNextTerm() {
            for (int i = 0; i < uses.length; i++) {
                uses[i] = 0;
            }
            for (int pupil = 0; pupil < PUPILS; pupil++) {
                latestKinds[pupil] = NONE;
                credits[pupil] = Math.min(MOST_CREDIT, credits[pupil] + 2);
            }
            for (int master = 0; master < MASTERS; master++) {
                grudges[master] = grudges[master] / 2;
            }
            termsEnded++;
        }
    }

    /** The states before the latest changes, in a ring, so that the oldest is dropped by being written over. */
    private static final class History {
        final School[] states = new School[HISTORY_LENGTH];
        int next = 0;
        int kept = 0;

        History() {
            for (int i = 0; i < HISTORY_LENGTH; i++) {
                states[i] = new School();
            }
        }

        void keep(School school) {
            states[next].become(school);
            next = (next + 1) % HISTORY_LENGTH;
            kept = Math.min(HISTORY_LENGTH, kept + 1);
        }

        void takeBack(School school) {
            next = (next + HISTORY_LENGTH - 1) % HISTORY_LENGTH;
            kept--;
            school.become(states[next]);
        }
    }

    private static final class Pad {
        final char[] characters = new char[PAD_LENGTH];
        int length = 0;

        void append(char character) {
            if (length < PAD_LENGTH) {
                characters[length] = character;
                length++;
            }
        }
    }

    /** Reads a text of offers, a character at a time, so that its fault and its offers come from one grammar. */
    private static final class Reader {
        static final int AT_PUPIL = 0;
        static final int AT_EXCUSE = 1;
        static final int AT_M = 2;
        static final int AT_MINUTES = 3;
        static final int AFTER_ONE_DIGIT = 4;
        static final int AFTER_MINUTES = 5;
        static final int AT_WITNESS = 6;
        static final int AFTER_WITNESS = 7;

        int place = AT_PUPIL;
        int pupil = 0;
        int excuse = 0;
        int minutes = 0;
        int witness = NONE;

        void begin() {
            place = AT_PUPIL;
            witness = NONE;
        }

        /** Goes past a character; false, and no further, if it cannot stand here. */
        boolean takes(char character) {
            switch (place) {
                case AT_PUPIL:
                    return takesPupil(character);
                case AT_EXCUSE:
                    return takesExcuse(character);
                case AT_M:
                    return goesOn(character == 'm', AT_MINUTES);
                case AT_MINUTES:
                    return character != '0' && takesMinutes(character, 0, AFTER_ONE_DIGIT);
                case AFTER_ONE_DIGIT:
                    return takesMinutes(character, minutes, AFTER_MINUTES) || takesAfterMinutes(character);
                case AFTER_MINUTES:
                    return takesAfterMinutes(character);
                case AT_WITNESS:
                    return takesWitness(character);
                default:
                    return takesComma(character);
            }
        }

        boolean canEnd() {
            return place == AFTER_ONE_DIGIT || place == AFTER_MINUTES || place == AFTER_WITNESS;
        }

        private boolean goesOn(boolean mayStand, int nextPlace) {
            if (mayStand) {
                place = nextPlace;
            }
            return mayStand;
        }

        private boolean takesPupil(char character) {
            if (isDigit(character)) {
                pupil = character - '0';
            }
            return goesOn(isDigit(character), AT_EXCUSE);
        }

        private boolean takesExcuse(char character) {
            boolean mayStand = isWithin(character, 'a', 'l');
            if (mayStand) {
                excuse = character - 'a';
            }
            return goesOn(mayStand, AT_M);
        }

        private boolean takesMinutes(char character, int tens, int nextPlace) {
            if (isDigit(character)) {
                minutes = 10 * tens + character - '0';
            }
            return goesOn(isDigit(character), nextPlace);
        }

        private boolean takesAfterMinutes(char character) {
            return goesOn(character == 'w', AT_WITNESS) || takesComma(character);
        }

        private boolean takesWitness(char character) {
            boolean mayStand = isDigit(character) && character - '0' != pupil;
            if (mayStand) {
                witness = character - '0';
            }
            return goesOn(mayStand, AFTER_WITNESS);
        }

        private boolean takesComma(char character) {
            if (character == ',') {
                witness = NONE;
            }
            return goesOn(character == ',', AT_PUPIL);
        }

        private static boolean isDigit(char character) {
            return isWithin(character, '0', '9');
        }
    }
}
