import java.util.ArrayDeque;
import java.util.ArrayList;
import java.util.Arrays;
import java.util.Deque;
import java.util.List;

/**
 * Long runs of calls on an object and on a model of the document that keeps nothing but what happened,
 * and works every answer out from that anew. The calls come from a fixed row of numbers.
 */
public final class ModelTests {
    private static final int NO_SUCH = -1, BAD_VALUE = -2, BAD_TEXT = -3, TOO_MANY = -4, NOT_POSSIBLE = -5, NONE = -6;
    private static final int RUNS = 400;
    private static final int CALLS = 512;

    private static int wrong = 0;
    private static long row = 20260101;

    public static void main(String[] args) {
        for (int run = 0; run < RUNS && wrong == 0; run++) {
            run(run);
        }
        System.out.println(wrong == 0 ? "the model agrees" : "the model does not agree");
        if (wrong != 0) {
            System.exit(1);
        }
    }

    private static void run(int run) {
        ExcuseTariffs x = new ExcuseTariffs();
        Model model = new Model();
        List<String> calls = new ArrayList<>();
        // What one turn puts on the pad takes two calls; nothing is promised after the last one.
        for (int turn = 0; turn < CALLS && calls.size() + 2 <= CALLS && wrong == 0; turn++) {
            call(x, model, run, calls);
        }
    }

    private static void due(List<String> calls, String call, int got, int want) {
        calls.add(call + " = " + got);
        if (got != want) {
            wrong++;
            System.out.println(String.join("\n", calls) + ", due is " + want);
        }
    }

    private static int next(int bound) {
        row = row * 6364136223846793005L + 1442695040888963407L;
        return (int) Math.floorMod(row >>> 33, (long) bound);
    }

    /** Mostly 0 to bound - 1, seldom a little or far outside. */
    private static int around(int bound) {
        int dice = next(60);
        if (dice == 0) {
            return -1 - next(7);
        }
        if (dice == 1) {
            return bound + next(3);
        }
        if (dice == 2) {
            return next(2) == 0 ? Integer.MIN_VALUE : Integer.MAX_VALUE;
        }
        return next(bound);
    }

    private static int minutes() {
        return next(3) == 0 ? around(101) : 1 + next(30);
    }

    private static void call(ExcuseTariffs x, Model m, int run, List<String> calls) {
        // Runs differ in how large the school is that they use, so that some wear their excuses out.
        int pupils = run % 3 == 0 ? 3 : 10;
        int excuses = m.now.excuses.size() + 1;
        int p = around(pupils);
        int e = around(excuses);
        int w = next(3) == 0 ? NONE : around(10);
        int minutes = minutes();
        int what = around(20);
        switch (next(26)) {
            case 0: {
                int setting = around(5);
                int value = next(4) == 0 ? around(101) : next(12);
                due(calls, "set " + setting + " " + value, x.set(setting, value), m.set(setting, value));
                break;
            }
            case 1: {
                int kind = around(5);
                int worth = next(3) == 0 ? around(100) : 50 + next(50);
                due(calls, "add " + kind + " " + worth, x.add(kind, worth), m.add(kind, worth));
                break;
            }
            case 2: {
                int worth = around(101);
                due(calls, "worth " + e + " " + worth, x.worth(e, worth), m.worth(e, worth));
                break;
            }
            case 3:
            case 4:
            case 5:
            case 6:
            case 7:
                due(calls, "offer " + p + " " + e + " " + w + " " + minutes, x.offer(p, e, w, minutes),
                        m.offer(p, e, w, minutes));
                break;
            case 8: {
                int pence = next(3) == 0 ? around(10001) : around(60);
                due(calls, "pay " + p + " " + pence, x.pay(p, pence), m.pay(p, pence));
                break;
            }
            case 9:
                if (next(2) == 0) {
                    due(calls, "endTerm", x.endTerm(), m.endTerm());
                }
                break;
            case 10:
                due(calls, "read", x.read(), m.read());
                break;
            case 11: {
                int about = around(5);
                due(calls, "excuse " + e + " " + about, x.excuse(e, about), m.excuse(e, about));
                break;
            }
            case 12: {
                int about = around(8);
                due(calls, "pupil " + p + " " + about, x.pupil(p, about), m.pupil(p, about));
                break;
            }
            case 13:
                due(calls, "novelty " + p + " " + e, x.novelty(p, e), m.novelty(p, e));
                break;
            case 14:
                due(calls, "why " + p + " " + e + " " + w + " " + minutes, x.why(p, e, w, minutes),
                        m.why(p, e, w, minutes));
                break;
            case 15:
                due(calls, "weight " + p + " " + e + " " + w + " " + minutes, x.weight(p, e, w, minutes),
                        m.weight(p, e, w, minutes));
                break;
            case 16:
                due(calls, "count " + what, x.count(what), m.count(what));
                break;
            case 17:
                due(calls, "bestExcuse " + p + " " + minutes, x.bestExcuse(p, minutes), m.bestExcuse(p, minutes));
                break;
            case 18:
                due(calls, "bestWitness " + p + " " + e + " " + minutes, x.bestWitness(p, e, minutes),
                        m.bestWitness(p, e, minutes));
                break;
            case 19:
                due(calls, "mostMinutes " + p + " " + e, x.mostMinutes(p, e), m.mostMinutes(p, e));
                break;
            case 20:
            case 21:
                putSome(x, m, calls);
                break;
            case 22:
                if (next(4) == 0) {
                    due(calls, "wipe", x.wipe(), m.wipe());
                }
                due(calls, "fault", x.fault(), m.fault());
                break;
            case 23:
                due(calls, "undo", x.undo(), m.undo());
                break;
            case 24: {
                int slot = around(2);
                due(calls, "save " + slot, x.save(slot), m.save(slot));
                break;
            }
            default: {
                int slot = around(2);
                due(calls, "restore " + slot, x.restore(slot), m.restore(slot));
            }
        }
    }

    private static void putSome(ExcuseTariffs x, Model m, List<String> calls) {
        if (next(6) == 0) {
            long characters = oddCharacters();
            due(calls, "put " + characters, x.put(characters), m.put(characters));
            return;
        }
        StringBuilder text = new StringBuilder(m.pad.isEmpty() ? "" : ",");
        text.append(next(10)).append((char) ('a' + next(13))).append('m').append(1 + next(99));
        if (next(2) == 0) {
            text.append('w').append(next(10));
        }
        if (next(8) == 0) {
            text.setCharAt(next(text.length()), "0a1mw,9l:`!~".charAt(next(12)));
        }
        for (int i = 0; i < text.length(); i += 8) {
            long characters = 0;
            for (char c : text.substring(i, Math.min(i + 8, text.length())).toCharArray()) {
                characters = characters << 8 | c;
            }
            due(calls, "put " + characters, x.put(characters), m.put(characters));
        }
    }

    private static long oddCharacters() {
        long characters = 0;
        int length = next(9);
        for (int i = 0; i < length; i++) {
            characters = characters << 8 | (next(12) == 0 ? next(256) : 33 + next(94));
        }
        return next(8) == 0 ? characters | 1L << next(64) : characters;
    }

    /** What happened in an offer: who, what, when, and what came of it. */
    private record Offer(int pupil, int excuse, int kind, int witness, int reason, int fine, int term) {
    }

    private record Excuse(int kind, int worth) {
    }

    private record Payment(int pupil, int pence) {
    }

    private static final class State {
        int[] settings = {40, 25, 3, 5, 4};
        List<Excuse> excuses = new ArrayList<>();
        List<Offer> offers = new ArrayList<>();
        List<Payment> payments = new ArrayList<>();
        int[] credits = {5, 5, 5, 5, 5, 5, 5, 5, 5, 5};
        int[] grudges = new int[5];
        int term = 0;

        State copied() {
            State copy = new State();
            copy.settings = settings.clone();
            copy.excuses = new ArrayList<>(excuses);
            copy.offers = new ArrayList<>(offers);
            copy.payments = new ArrayList<>(payments);
            copy.credits = credits.clone();
            copy.grudges = grudges.clone();
            copy.term = term;
            return copy;
        }
    }

    private static final class Model {
        State now = new State();
        Deque<State> history = new ArrayDeque<>();
        State[] slots = new State[2];
        String pad = "";

        boolean noPupil(int p) {
            return p < 0 || p > 9;
        }

        boolean noExcuse(int e) {
            return e < 0 || e >= now.excuses.size();
        }

        boolean outside(int value, int least, int most) {
            return value < least || value > most;
        }

        void keep() {
            history.addLast(now.copied());
            if (history.size() > 6) {
                history.removeFirst();
            }
        }

        int set(int setting, int value) {
            int[] least = {1, 0, 1, 1, 0};
            int[] most = {99, 50, 9, 60, 20};
            if (outside(setting, 0, 4) || outside(value, least[setting], most[setting])) {
                return BAD_VALUE;
            }
            keep();
            int previous = now.settings[setting];
            now.settings[setting] = value;
            return previous;
        }

        int add(int kind, int worth) {
            if (outside(kind, 0, 4) || outside(worth, 1, 99)) {
                return BAD_VALUE;
            }
            if (now.excuses.size() == 12) {
                return TOO_MANY;
            }
            keep();
            now.excuses.add(new Excuse(kind, worth));
            return now.excuses.size() - 1;
        }

        int worth(int excuse, int worth) {
            if (noExcuse(excuse)) {
                return NO_SUCH;
            }
            if (outside(worth, 1, 99)) {
                return BAD_VALUE;
            }
            keep();
            Excuse old = now.excuses.get(excuse);
            now.excuses.set(excuse, new Excuse(old.kind(), worth));
            return old.worth();
        }

        int wrongOffer(int p, int e, int w, int minutes) {
            if (noPupil(p) || noExcuse(e) || w != NONE && noPupil(w)) {
                return NO_SUCH;
            }
            return outside(minutes, 1, 99) || w == p ? BAD_VALUE : 0;
        }

        int offer(int p, int e, int w, int minutes) {
            int error = wrongOffer(p, e, w, minutes);
            if (error != 0) {
                return error;
            }
            keep();
            return happens(p, e, w, minutes);
        }

        int happens(int p, int e, int w, int minutes) {
            int reason = why(p, e, w, minutes);
            int fine = reason == 0 ? 0 : now.settings[3] * minutes;
            now.offers.add(new Offer(p, e, now.excuses.get(e).kind(), w, reason, fine, now.term));
            if (w != NONE && (reason == 0 || reason == 4)) {
                now.credits[w] = Math.max(0, now.credits[w] - (reason == 0 ? 1 : 2));
            }
            if ((reason != 0 || minutes > 30) && now.grudges[p / 2] < 9) {
                now.grudges[p / 2]++;
            }
            return reason;
        }

        int pay(int p, int pence) {
            if (noPupil(p)) {
                return NO_SUCH;
            }
            if (outside(pence, 1, 9999)) {
                return BAD_VALUE;
            }
            if (fine(p) < pence) {
                return NOT_POSSIBLE;
            }
            keep();
            now.payments.add(new Payment(p, pence));
            return fine(p);
        }

        int paid(int p) {
            return now.payments.stream().filter(pay -> pay.pupil() == p).mapToInt(Payment::pence).sum();
        }

        int fine(int p) {
            return now.offers.stream().filter(o -> o.pupil() == p).mapToInt(Offer::fine).sum() - paid(p);
        }

        int endTerm() {
            keep();
            int stamps = 0;
            for (Offer o : now.offers) {
                stamps += o.term() == now.term && o.reason() == 0 ? 1 : 0;
            }
            for (int p = 0; p < 10; p++) {
                now.credits[p] = Math.min(9, now.credits[p] + 2);
            }
            for (int c = 0; c < 5; c++) {
                now.grudges[c] /= 2;
            }
            now.term++;
            return stamps;
        }

        boolean isOffers(String text) {
            for (String offer : text.split(",", -1)) {
                if (!offer.matches("[0-9][a-l]m[1-9][0-9]?(w[0-9])?")) {
                    return false;
                }
                if (offer.indexOf('w') > 0 && offer.charAt(0) == offer.charAt(offer.length() - 1)) {
                    return false;
                }
            }
            return true;
        }

        boolean canBecomeOffers(String text) {
            for (String more : new String[] {"", "0am1", "am1", "m1", "1", "2"}) {
                if (isOffers(text + more)) {
                    return true;
                }
            }
            return false;
        }

        int fault() {
            for (int i = 0; i < pad.length(); i++) {
                if (!canBecomeOffers(pad.substring(0, i + 1))) {
                    return i;
                }
            }
            return isOffers(pad) ? NONE : pad.length();
        }

        int read() {
            if (!isOffers(pad)) {
                return BAD_TEXT;
            }
            keep();
            int stamps = 0;
            for (String offer : pad.split(",")) {
                String[] parts = offer.substring(3).split("w");
                int e = offer.charAt(1) - 'a';
                int w = parts.length == 2 ? Integer.parseInt(parts[1]) : NONE;
                if (!noExcuse(e) && happens(offer.charAt(0) - '0', e, w, Integer.parseInt(parts[0])) == 0) {
                    stamps++;
                }
            }
            pad = "";
            return stamps;
        }

        int uses(int p, int e) {
            int uses = 0;
            for (Offer o : now.offers) {
                uses += o.pupil() == p && o.excuse() == e && o.reason() == 0 && o.term() == now.term ? 1 : 0;
            }
            return uses;
        }

        int schoolUses(int e) {
            int uses = 0;
            for (int p = 0; p < 10; p++) {
                uses += uses(p, e);
            }
            return uses;
        }

        int excuse(int e, int what) {
            if (noExcuse(e)) {
                return NO_SUCH;
            }
            switch (what) {
                case 0:
                    return now.excuses.get(e).kind();
                case 1:
                    return now.excuses.get(e).worth();
                case 2:
                    return schoolUses(e);
                case 3:
                    return (int) now.offers.stream().filter(o -> o.excuse() == e && o.reason() == 0).count();
                case 4: {
                    int set = 0;
                    for (int p = 0; p < 10; p++) {
                        set += uses(p, e) > 0 ? 1 << p : 0;
                    }
                    return set;
                }
                default:
                    return BAD_VALUE;
            }
        }

        int latestKind(int p) {
            int kind = NONE;
            for (Offer o : now.offers) {
                kind = o.pupil() == p && o.term() == now.term ? o.kind() : kind;
            }
            return kind;
        }

        int pupil(int p, int what) {
            if (noPupil(p)) {
                return NO_SUCH;
            }
            switch (what) {
                case 0:
                    return now.credits[p];
                case 1:
                    return fine(p);
                case 2:
                    return (int) now.offers.stream().filter(o -> o.pupil() == p && o.reason() == 0).count();
                case 3:
                    return (int) now.offers.stream().filter(o -> o.pupil() == p && o.reason() > 0).count();
                case 4:
                    return latestKind(p);
                case 5: {
                    int uses = 0;
                    for (int e = 0; e < 12; e++) {
                        uses += uses(p, e);
                    }
                    return uses;
                }
                case 6:
                    return now.grudges[p / 2];
                case 7:
                    return paid(p);
                default:
                    return BAD_VALUE;
            }
        }

        int novelty(int p, int e) {
            if (noPupil(p) || noExcuse(e)) {
                return NO_SUCH;
            }
            int classmate = p % 2 == 0 ? p + 1 : p - 1;
            int times = schoolUses(e) + uses(p, e) + uses(classmate, e);
            return Math.max(0, 100 - now.settings[1] * times);
        }

        int why(int p, int e, int w, int minutes) {
            int error = wrongOffer(p, e, w, minutes);
            if (error != 0) {
                return error;
            }
            if (uses(p, e) >= now.settings[2]) {
                return 1;
            }
            if (latestKind(p) == now.excuses.get(e).kind()) {
                return 2;
            }
            if (w != NONE && now.credits[w] == 0) {
                return 3;
            }
            return weight(p, e, w, minutes) - 1000 < now.settings[0] ? 4 : 0;
        }

        int weight(int p, int e, int w, int minutes) {
            int error = wrongOffer(p, e, w, minutes);
            if (error != 0) {
                return error;
            }
            int worn = now.excuses.get(e).worth() * novelty(p, e) / 100;
            int witness = w == NONE ? 0 : w / 2 == p / 2 ? Math.max(0, now.credits[w] - 2) : now.credits[w];
            return 1000 + worn - now.settings[4] * now.grudges[p / 2] - minutes / 10 + witness;
        }

        int count(int what) {
            if (what >= 0 && what < 5) {
                return now.settings[what];
            }
            if (what >= 6 && what <= 10) {
                return (int) now.offers.stream().filter(o -> o.reason() == what - 6).count();
            }
            int owed = 0;
            int paid = 0;
            for (int p = 0; p < 10; p++) {
                owed += fine(p);
                paid += paid(p);
            }
            switch (what) {
                case 5:
                    return now.excuses.size();
                case 11:
                    return owed;
                case 12:
                    return paid;
                case 13:
                    return now.offers.stream().mapToInt(Offer::fine).sum();
                case 14:
                    return now.term;
                case 15:
                    return Arrays.stream(now.credits).sum();
                case 16:
                    return Arrays.stream(now.grudges).sum();
                case 17:
                    return wornOut();
                case 18:
                    return pad.length();
                case 19:
                    return history.size();
                default:
                    return BAD_VALUE;
            }
        }

        int wornOut() {
            int worn = 0;
            for (int e = 0; e < now.excuses.size(); e++) {
                int most = 0;
                for (int p = 0; p < 10; p++) {
                    most = Math.max(most, novelty(p, e));
                }
                worn += most == 0 ? 1 : 0;
            }
            return worn;
        }

        int bestExcuse(int p, int minutes) {
            if (noPupil(p)) {
                return NO_SUCH;
            }
            if (outside(minutes, 1, 99)) {
                return BAD_VALUE;
            }
            for (int weight = 1200; weight > 700; weight--) {
                for (int e = 0; e < now.excuses.size(); e++) {
                    if (why(p, e, NONE, minutes) == 0 && weight(p, e, NONE, minutes) == weight) {
                        return e;
                    }
                }
            }
            return NONE;
        }

        int bestWitness(int p, int e, int minutes) {
            if (noPupil(p) || noExcuse(e)) {
                return NO_SUCH;
            }
            if (outside(minutes, 1, 99)) {
                return BAD_VALUE;
            }
            for (int weight = 1200; weight > 700; weight--) {
                for (int w = 0; w < 10; w++) {
                    if (w != p && now.credits[w] > 0 && weight(p, e, w, minutes) == weight) {
                        return w;
                    }
                }
            }
            return NONE;
        }

        int mostMinutes(int p, int e) {
            if (noPupil(p) || noExcuse(e)) {
                return NO_SUCH;
            }
            int most = NONE;
            for (int minutes = 1; minutes <= 99; minutes++) {
                most = why(p, e, NONE, minutes) == 0 ? minutes : most;
            }
            return most;
        }

        int put(long characters) {
            StringBuilder text = new StringBuilder();
            boolean begun = false;
            for (int shift = 56; shift >= 0; shift -= 8) {
                char c = (char) (characters >>> shift & 255);
                begun |= c != 0;
                if (begun && outside(c, 33, 126)) {
                    return BAD_VALUE;
                }
                if (begun) {
                    text.append(c);
                }
            }
            if (!begun) {
                return BAD_VALUE;
            }
            if (pad.length() + text.length() > 60) {
                return TOO_MANY;
            }
            pad += text;
            return pad.length();
        }

        int wipe() {
            int length = pad.length();
            pad = "";
            return length;
        }

        int undo() {
            if (history.isEmpty()) {
                return NOT_POSSIBLE;
            }
            now = history.removeLast();
            return history.size();
        }

        int save(int slot) {
            if (outside(slot, 0, 1)) {
                return BAD_VALUE;
            }
            slots[slot] = now.copied();
            return now.term;
        }

        int restore(int slot) {
            if (outside(slot, 0, 1)) {
                return BAD_VALUE;
            }
            if (slots[slot] == null) {
                return NOT_POSSIBLE;
            }
            keep();
            now = slots[slot].copied();
            return now.term;
        }
    }
}
