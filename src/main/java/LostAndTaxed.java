import java.util.Arrays;

/** A town whose lost walkers are taxed: told by a text, walked through, and asked what would be. */
public final class LostAndTaxed {
    public static final int BAD = -1, NO = -2, FULL = -3, NONE = -4;

    private static final String FIRST_TEXT =
        "c6;s0,1,3;s1,2,4;s2,3,2;s0,4,5;s4,3,6;s1,4,1;s3,5,2;g1,5,4;g4,5,3;g2,5,1;w0,0,5;w1,0,5;w2,2,0;w3,0,5;";

    private static final int MOST_LETTERS = 200;
    private static final int MOST_CORNERS = 8;
    private static final int MOST_STREETS = 12;
    private static final int MOST_SIGNS = 8;
    private static final int MOST_WALKERS = 4;
    private static final int MOST_STEPS = 30;
    private static final int MOST_SEEN = 8;
    private static final int MOST_UNDONE = 8;
    private static final int MOST_KEPT = 2;
    private static final int MOST_TURNED = 5;

    private static final int NATIVE = 0;
    private static final int STRANGER = 1;
    private static final int HONEST = 2;
    private static final int STUBBORN = 3;
    private static final int ALL_KINDS = 4;

    private static final int NOWHERE = -1;

    private final Text text;
    private final Reader reader;
    private Town town;
    private Town draft;
    private final Trip trip;
    private final Signs trial;
    private final Changes changes;
    private final Shelf shelf;
    private final Sightings sightings;
    private final Pick pick;
    private final int[][] detours;
    private final int[] strayed;
    private final int[] taxes;

    public LostAndTaxed() {
        text = new Text();
        reader = new Reader();
        town = new Town();
        draft = new Town();
        trip = new Trip();
        trial = new Signs();
        changes = new Changes();
        shelf = new Shelf();
        sightings = new Sightings();
        pick = new Pick();
        detours = new int[MOST_CORNERS][MOST_CORNERS];
        strayed = new int[MOST_CORNERS];
        taxes = new int[MOST_WALKERS];
        for (int k = 0; k < FIRST_TEXT.length(); k++) {
            text.append(FIRST_TEXT.charAt(k));
        }
        lay();
        wipe();
    }

    // ---- towns

    public int write(int letter) {
        if (letter < 32 || letter > 126) {
            return BAD;
        }
        if (text.length >= MOST_LETTERS) {
            return FULL;
        }
        text.append(letter);
        return text.length;
    }

    public int wipe() {
        int was = text.length;
        text.length = 0;
        return was;
    }

    public int fault() {
        return reader.readInto(draft, text);
    }

    public int lay() {
        if (reader.readInto(draft, text) != NONE || draft.walkers.count == 0) {
            return NO;
        }
        Town old = town;
        town = draft;
        draft = old;
        town.streets.measure(town.streets.distances, NOWHERE);
        changes.clear();
        shelf.count = 0;
        sightings.count = 0;
        return town.streets.corners;
    }

    public int far(int a, int b) {
        if (!isCorner(a) || !isCorner(b)) {
            return BAD;
        }
        return town.streets.distances[a][b];
    }

    public int street(int a, int b) {
        if (!isCorner(a) || !isCorner(b)) {
            return BAD;
        }
        int length = town.streets.lengths[a][b];
        return length > 0 ? length : NONE;
    }

    public int sign(int k, int what) {
        if (!isSign(k)) {
            return BAD;
        }
        switch (what) {
            case 0: return town.signs.corners[k];
            case 1: return town.signs.aims[k];
            case 2: return town.signs.nexts[k];
            default: return BAD;
        }
    }

    public int walker(int i, int what) {
        if (!isWalker(i)) {
            return BAD;
        }
        switch (what) {
            case 0: return town.walkers.kinds[i];
            case 1: return town.walkers.froms[i];
            case 2: return town.walkers.aims[i];
            case 3: return town.walkers.told[i];
            default: return BAD;
        }
    }

    // ---- walks

    public int walk(int i, int k) {
        if (!isWalker(i) || !isWithin(k, MOST_STEPS + 1)) {
            return BAD;
        }
        send(i);
        return trip.placeBehind(k);
    }

    public int way(int i, int what) {
        if (!isWalker(i) || !isWithin(what, 5)) {
            return BAD;
        }
        send(i);
        switch (what) {
            case 0: return trip.steps;
            case 1: return trip.minutes;
            case 2: return trip.wrong;
            case 3: return trip.cost;
            default: return trip.arrived ? 1 : 0;
        }
    }

    public int round(int i) {
        if (!isWalker(i)) {
            return BAD;
        }
        send(i);
        return trip.firstRepeat();
    }

    public int tax() {
        return taxBy(town.signs);
    }

    // ---- signs

    public int put(int c, int t, int n) {
        if (!isCorner(c) || !isCorner(t) || !isCorner(n)) {
            return BAD;
        }
        if (town.signs.count >= MOST_SIGNS) {
            return FULL;
        }
        changes.note(Changes.PUT, town.signs.count, c, t, n);
        town.signs.insert(town.signs.count, c, t, n);
        return town.signs.count;
    }

    public int take(int k) {
        if (!isSign(k)) {
            return BAD;
        }
        Signs signs = town.signs;
        changes.note(Changes.TAKEN, k, signs.corners[k], signs.aims[k], signs.nexts[k]);
        signs.remove(k);
        return signs.count;
    }

    public int tell(int i, int c) {
        if (!isWalker(i) || !isCorner(c)) {
            return BAD;
        }
        int was = town.walkers.told[i];
        changes.note(Changes.TOLD, i, NOWHERE, was, NOWHERE);
        town.walkers.told[i] = c;
        return was;
    }

    public int undo() {
        if (changes.count == 0) {
            return NO;
        }
        changes.revertLatest(town);
        return changes.count;
    }

    // ---- what would be

    public int lies() {
        Signs signs = town.signs;
        int bits = 0;
        for (int k = 0; k < signs.count; k++) {
            if (!town.streets.leadsOn(signs.corners[k], signs.nexts[k], signs.aims[k])) {
                bits |= 1 << k;
            }
        }
        return bits;
    }

    public int lure(int what) {
        if (!isWithin(what, 2)) {
            return BAD;
        }
        pick.clear();
        int now = taxBy(town.signs);
        trial.copyFrom(town.signs);
        for (int c = 0; c < town.streets.corners; c++) {
            for (int t = 0; t < town.streets.corners; t++) {
                // A sign that no stranger heeds changes no tax, so it is never more than now.
                if (c != t && town.walkers.anyStrangerTo(t)) {
                    offerLures(c, t, now);
                }
            }
        }
        return pick.answer(what);
    }

    public int mend(int what) {
        if (!isWithin(what, 2)) {
            return BAD;
        }
        pick.clear();
        for (int k = 0; k < town.signs.count; k++) {
            trial.copyFrom(town.signs);
            trial.remove(k);
            pick.offerLeast(k, taxBy(trial));
        }
        return pick.answer(what);
    }

    public int best(int i, int what) {
        if (!isWalker(i) || !isWithin(what, 2)) {
            return BAD;
        }
        Walkers walkers = town.walkers;
        pick.clear();
        for (int c = 0; c < town.streets.corners; c++) {
            trip.make(town, town.signs, walkers.kinds[i], walkers.froms[i], walkers.aims[i], c);
            pick.offerLeast(c, trip.cost);
        }
        return pick.answer(what);
    }

    public int watch(int what) {
        if (!isWithin(what, 2)) {
            return BAD;
        }
        Arrays.fill(strayed, 0);
        for (int i = 0; i < town.walkers.count; i++) {
            send(i);
            trip.tallyWrong(strayed);
        }
        pick.clear();
        for (int c = 0; c < town.streets.corners; c++) {
            pick.offerMost(c, strayed[c]);
        }
        return pick.answer(what);
    }

    public int missed(int what) {
        if (!isWithin(what, 2)) {
            return BAD;
        }
        int now = town.minutesToAims(town.streets.distances);
        pick.clear();
        for (int s = 0; s < town.streets.count; s++) {
            town.streets.measure(detours, s);
            pick.offerMost(s, town.minutesToAims(detours) - now);
        }
        return pick.answer(what);
    }

    // ---- what was seen

    public int seen(int i, int c, int k) {
        if (!isWalker(i) || !isCorner(c) || !isWithin(k, MOST_STEPS + 1)) {
            return BAD;
        }
        if (sightings.count >= MOST_SEEN) {
            return FULL;
        }
        sightings.add(i, c, k);
        return sightings.count;
    }

    public int forget() {
        int was = sightings.count;
        sightings.count = 0;
        return was;
    }

    public int kinds(int i) {
        if (!isWalker(i)) {
            return BAD;
        }
        Walkers walkers = town.walkers;
        int bits = 0;
        for (int kind = 0; kind < ALL_KINDS; kind++) {
            trip.make(town, town.signs, kind, walkers.froms[i], walkers.aims[i], walkers.told[i]);
            if (sightings.fit(i, trip)) {
                bits |= 1 << kind;
            }
        }
        return bits;
    }

    public int paid(int v, int what) {
        if (!isWithin(v, 1000) || !isWithin(what, 2)) {
            return BAD;
        }
        int walkers = town.walkers.count;
        for (int i = 0; i < walkers; i++) {
            send(i);
            taxes[i] = trip.cost;
        }
        int many = 0;
        int lowest = NONE;
        for (int set = 0; set < 1 << walkers; set++) {
            if (taxOfSet(set, walkers) == v) {
                many++;
                lowest = lowest == NONE ? set : lowest;
            }
        }
        return what == 0 ? many : lowest;
    }

    public int mean(int n, int x, int part) {
        if (!isWithin(n, MOST_TURNED + 1) || !isWithin(x, 11) || !isWithin(part, 2)) {
            return BAD;
        }
        int turnable = Math.min(n, town.signs.count);
        int above = 0;
        int below = 1;
        for (int k = 0; k < turnable; k++) {
            below *= 10;
        }
        for (int set = 0; set < 1 << turnable; set++) {
            int weight = weightOfTurned(set, turnable, x);
            if (weight > 0) {
                turnSigns(set, turnable);
                above += weight * taxBy(trial);
            }
        }
        return (part == 0 ? above : below) / commonDivisor(above, below);
    }

    public int day(int z, int what) {
        if (!isWithin(z, 10000) || !isWithin(what, 2)) {
            return BAD;
        }
        int corners = Math.max(1, town.streets.corners);
        int sum = 0;
        int arrived = 0;
        for (int i = 0; i < town.walkers.count; i++) {
            int draw = drawOf(z, i);
            int aim = draw / 8 % corners;
            trip.make(town, town.signs, town.walkers.kinds[i], draw % corners, aim, aim);
            sum += trip.cost;
            arrived += trip.arrived ? 1 : 0;
        }
        return what == 0 ? sum : arrived;
    }

    // ---- kept

    public int keep() {
        if (shelf.count >= MOST_KEPT) {
            return FULL;
        }
        shelf.store(town);
        return shelf.count;
    }

    public int back() {
        if (shelf.count == 0) {
            return NO;
        }
        shelf.restoreLast(town);
        changes.clear();
        return shelf.count;
    }

    public int count(int what) {
        switch (what) {
            case 0: return town.streets.corners;
            case 1: return town.streets.count;
            case 2: return town.signs.count;
            case 3: return town.walkers.count;
            case 4: return sightings.count;
            case 5: return changes.count;
            case 6: return shelf.count;
            case 7: return text.length;
            default: return BAD;
        }
    }

    private static boolean isWithin(int value, int bound) {
        return value >= 0 && value < bound;
    }

    private boolean isCorner(int c) {
        return isWithin(c, town.streets.corners);
    }

    private boolean isSign(int k) {
        return isWithin(k, town.signs.count);
    }

    private boolean isWalker(int i) {
        return isWithin(i, town.walkers.count);
    }

    private void send(int i) {
        Walkers walkers = town.walkers;
        trip.make(town, town.signs, walkers.kinds[i], walkers.froms[i], walkers.aims[i], walkers.told[i]);
    }

    private int taxBy(Signs signs) {
        Walkers walkers = town.walkers;
        int sum = 0;
        for (int i = 0; i < walkers.count; i++) {
            trip.make(town, signs, walkers.kinds[i], walkers.froms[i], walkers.aims[i], walkers.told[i]);
            sum += trip.cost;
        }
        return sum;
    }

    private void offerLures(int c, int t, int now) {
        int last = trial.count;
        for (int n = 0; n < town.streets.corners; n++) {
            if (town.streets.lengths[c][n] > 0) {
                trial.insert(last, c, t, n);
                int sum = taxBy(trial);
                trial.remove(last);
                if (sum > now) {
                    pick.offerMost(100 * c + 10 * t + n, sum);
                }
            }
        }
    }

    private int taxOfSet(int set, int walkers) {
        int sum = 0;
        for (int i = 0; i < walkers; i++) {
            if ((set >> i & 1) == 1) {
                sum += taxes[i];
            }
        }
        return sum;
    }

    private static int weightOfTurned(int set, int turnable, int x) {
        int weight = 1;
        for (int k = 0; k < turnable; k++) {
            weight *= (set >> k & 1) == 1 ? x : 10 - x;
        }
        return weight;
    }

    private void turnSigns(int set, int turnable) {
        trial.copyFrom(town.signs);
        for (int k = 0; k < turnable; k++) {
            if ((set >> k & 1) == 1) {
                trial.nexts[k] = town.streets.firstBut(trial.corners[k], trial.nexts[k]);
            }
        }
    }

    /** At least 1, so that it may divide. */
    private static int commonDivisor(int a, int b) {
        int larger = a;
        int smaller = b;
        // Euclid needs fewer than 50 turns for any two ints.
        for (int turn = 0; turn < 100 && smaller != 0; turn++) {
            int rest = larger % smaller;
            larger = smaller;
            smaller = rest;
        }
        return Math.max(1, larger);
    }

    private static int drawOf(int z, int i) {
        // The square goes beyond an int.
        long q = 7919L * z + 6151L * i + 1;
        return (int) (q * q % 65521);
    }

    /** THE TEXT, as it is written letter by letter. */
    private static final class Text {
        private final char[] letters = new char[MOST_LETTERS];
        private int length;

        private void append(int letter) {
            if (length < MOST_LETTERS) {
                letters[length] = (char) letter;
                length++;
            }
        }

        private int letterAt(int place) {
            return place >= 0 && place < length ? letters[place] : NONE;
        }
    }

    /** Reads a text, item by item, into a town. */
    private static final class Reader {
        private final int[] numbers = new int[3];
        private int place;
        private boolean onlyCorners;

        /** The place of the first item at fault, NONE if there is none. */
        private int readInto(Town draft, Text text) {
            draft.clear();
            place = 0;
            onlyCorners = true;
            for (int items = 0; items < MOST_LETTERS && place < text.length; items++) {
                int start = place;
                int letter = text.letterAt(place);
                place++;
                if (!readNumbers(text, letter == 'c' ? 1 : 3) || !accept(letter, draft)) {
                    return start;
                }
            }
            return NONE;
        }

        private boolean readNumbers(Text text, int many) {
            for (int k = 0; k < many && k < numbers.length; k++) {
                numbers[k] = readNumber(text);
                int behind = k + 1 < many ? ',' : ';';
                if (numbers[k] == NONE || text.letterAt(place) != behind) {
                    return false;
                }
                place++;
            }
            return true;
        }

        private int readNumber(Text text) {
            int value = NONE;
            for (int figures = 0; figures < 2; figures++) {
                int letter = text.letterAt(place);
                if (letter < '0' || letter > '9') {
                    return value;
                }
                value = (value == NONE ? 0 : 10 * value) + letter - '0';
                place++;
            }
            return value;
        }

        private boolean accept(int letter, Town draft) {
            if (letter == 'c') {
                return onlyCorners && acceptCorners(draft);
            }
            onlyCorners = false;
            switch (letter) {
                case 's': return acceptStreet(draft);
                case 'g': return acceptSign(draft);
                case 'w': return acceptWalker(draft);
                case 'r': return acceptRates(draft);
                default: return false;
            }
        }

        private boolean acceptCorners(Town draft) {
            if (numbers[0] < 1 || numbers[0] > MOST_CORNERS) {
                return false;
            }
            draft.streets.corners = numbers[0];
            return true;
        }

        private boolean acceptStreet(Town draft) {
            Streets streets = draft.streets;
            int a = numbers[0];
            int b = numbers[1];
            int length = numbers[2];
            if (streets.count >= MOST_STREETS || !isWithin(a, streets.corners) || !isWithin(b, streets.corners)) {
                return false;
            }
            if (a == b || streets.lengths[a][b] > 0 || length < 1 || length > 20) {
                return false;
            }
            streets.add(a, b, length);
            return true;
        }

        private boolean acceptSign(Town draft) {
            int corners = draft.streets.corners;
            if (draft.signs.count >= MOST_SIGNS || !isWithin(numbers[0], corners)
                || !isWithin(numbers[1], corners) || !isWithin(numbers[2], corners)) {
                return false;
            }
            draft.signs.insert(draft.signs.count, numbers[0], numbers[1], numbers[2]);
            return true;
        }

        private boolean acceptWalker(Town draft) {
            int corners = draft.streets.corners;
            if (draft.walkers.count >= MOST_WALKERS || !isWithin(numbers[0], ALL_KINDS)
                || !isWithin(numbers[1], corners) || !isWithin(numbers[2], corners)) {
                return false;
            }
            draft.walkers.add(numbers[0], numbers[1], numbers[2]);
            return true;
        }

        private boolean acceptRates(Town draft) {
            if (!isWithin(numbers[0], 10) || !isWithin(numbers[1], 10) || !isWithin(numbers[2], 10)) {
                return false;
            }
            draft.wrongRate = numbers[0];
            draft.backRate = numbers[1];
            draft.askRate = numbers[2];
            return true;
        }
    }

    /** What a text tells, with the signs and aims told as they now stand. */
    private static final class Town {
        private final Streets streets = new Streets();
        private final Signs signs = new Signs();
        private final Walkers walkers = new Walkers();
        private int wrongRate;
        private int backRate;
        private int askRate;

        private void clear() {
            streets.clear();
            signs.count = 0;
            walkers.count = 0;
            wrongRate = 2;
            backRate = 3;
            askRate = 1;
        }

        private int minutesToAims(int[][] distances) {
            int sum = 0;
            for (int i = 0; i < walkers.count; i++) {
                int distance = distances[walkers.froms[i]][walkers.aims[i]];
                sum += distance == NONE ? 200 : distance;
            }
            return sum;
        }
    }

    /** The corners, the streets between them and how far it is. */
    private static final class Streets {
        private int corners;
        private int count;
        private final int[] ones = new int[MOST_STREETS];
        private final int[] others = new int[MOST_STREETS];
        // 0 where no street leads.
        private final int[][] lengths = new int[MOST_CORNERS][MOST_CORNERS];
        // NONE where no way leads.
        private final int[][] distances = new int[MOST_CORNERS][MOST_CORNERS];

        private void clear() {
            corners = 4;
            count = 0;
            for (int c = 0; c < MOST_CORNERS; c++) {
                Arrays.fill(lengths[c], 0);
            }
        }

        private void add(int a, int b, int length) {
            if (count < MOST_STREETS) {
                ones[count] = a;
                others[count] = b;
                lengths[a][b] = length;
                lengths[b][a] = length;
                count++;
            }
        }

        /** Fills in how far it is between all corners if one street were not there. */
        private void measure(int[][] into, int without) {
            for (int c = 0; c < MOST_CORNERS; c++) {
                Arrays.fill(into[c], NONE);
                into[c][c] = 0;
            }
            for (int s = 0; s < count; s++) {
                int a = ones[s];
                int b = others[s];
                if (s != without) {
                    into[a][b] = lengths[a][b];
                    into[b][a] = lengths[a][b];
                }
            }
            for (int via = 0; via < corners; via++) {
                shortenBy(into, via);
            }
        }

        private void shortenBy(int[][] into, int via) {
            for (int a = 0; a < corners; a++) {
                int there = into[a][via];
                for (int b = 0; b < corners && there != NONE; b++) {
                    int onward = into[via][b];
                    if (onward != NONE && (into[a][b] == NONE || there + onward < into[a][b])) {
                        into[a][b] = there + onward;
                    }
                }
            }
        }

        private boolean leadsOn(int here, int next, int aim) {
            int whole = distances[here][aim];
            int step = lengths[here][next];
            return step > 0 && whole != NONE && whole == step + distances[next][aim];
        }

        private int towards(int here, int aim) {
            for (int next = 0; next < corners; next++) {
                if (leadsOn(here, next, aim)) {
                    return next;
                }
            }
            return NOWHERE;
        }

        /** The first corner by a street but this one, which it is if there is no other. */
        private int firstBut(int here, int avoided) {
            for (int next = 0; next < corners; next++) {
                if (next != avoided && lengths[here][next] > 0) {
                    return next;
                }
            }
            return avoided;
        }

        /** The last corner by a street but this one, which it is if there is no other. */
        private int lastBut(int here, int avoided) {
            for (int next = corners - 1; next >= 0; next--) {
                if (next != avoided && lengths[here][next] > 0) {
                    return next;
                }
            }
            return avoided;
        }
    }

    /** Signs in the order in which they were put up. */
    private static final class Signs {
        // LURE puts one more behind all that there may be.
        private static final int ROOM = MOST_SIGNS + 1;
        private final int[] corners = new int[ROOM];
        private final int[] aims = new int[ROOM];
        private final int[] nexts = new int[ROOM];
        private int count;

        private void insert(int k, int corner, int aim, int next) {
            if (count >= ROOM || k < 0 || k > count) {
                return;
            }
            for (int behind = count; behind > k; behind--) {
                move(behind - 1, behind);
            }
            corners[k] = corner;
            aims[k] = aim;
            nexts[k] = next;
            count++;
        }

        private void remove(int k) {
            if (k < 0 || k >= count) {
                return;
            }
            for (int behind = k + 1; behind < count; behind++) {
                move(behind, behind - 1);
            }
            count--;
        }

        private void move(int from, int to) {
            corners[to] = corners[from];
            aims[to] = aims[from];
            nexts[to] = nexts[from];
        }

        private void copyFrom(Signs other) {
            System.arraycopy(other.corners, 0, corners, 0, ROOM);
            System.arraycopy(other.aims, 0, aims, 0, ROOM);
            System.arraycopy(other.nexts, 0, nexts, 0, ROOM);
            count = other.count;
        }

        private int latestFor(int here, int aim) {
            for (int k = count - 1; k >= 0; k--) {
                if (corners[k] == here && aims[k] == aim) {
                    return nexts[k];
                }
            }
            return NOWHERE;
        }
    }

    /** Walkers, and the aims that are told of them. */
    private static final class Walkers {
        private final int[] kinds = new int[MOST_WALKERS];
        private final int[] froms = new int[MOST_WALKERS];
        private final int[] aims = new int[MOST_WALKERS];
        private final int[] told = new int[MOST_WALKERS];
        private int count;

        private void add(int kind, int from, int aim) {
            if (count < MOST_WALKERS) {
                kinds[count] = kind;
                froms[count] = from;
                aims[count] = aim;
                told[count] = aim;
                count++;
            }
        }

        private boolean anyStrangerTo(int aim) {
            for (int i = 0; i < count; i++) {
                if (kinds[i] == STRANGER && aims[i] == aim) {
                    return true;
                }
            }
            return false;
        }
    }

    /** One walk through a town, step by step, and what came of it. */
    private static final class Trip {
        private final int[] places = new int[MOST_STEPS + 1];
        private final boolean[] strays = new boolean[MOST_STEPS];
        private int steps;
        private int minutes;
        private int wrong;
        private int cost;
        private boolean arrived;

        private void make(Town town, Signs signs, int kind, int from, int aim, int told) {
            steps = 0;
            minutes = 0;
            wrong = 0;
            cost = 0;
            places[0] = from;
            int came = NOWHERE;
            int here = from;
            for (int k = 0; k < MOST_STEPS && here != aim; k++) {
                int next = choose(town.streets, signs, kind, here, came, aim);
                if (next == NOWHERE) {
                    break;
                }
                if (kind == HONEST) {
                    minutes++;
                    cost += town.askRate;
                }
                minutes += town.streets.lengths[here][next];
                strays[k] = !town.streets.leadsOn(here, next, told);
                if (strays[k]) {
                    wrong++;
                    cost += town.wrongRate + (next == came ? town.backRate : 0);
                }
                came = here;
                here = next;
                steps = k + 1;
                places[steps] = here;
            }
            arrived = here == aim;
        }

        private static int choose(Streets streets, Signs signs, int kind, int here, int came, int aim) {
            switch (kind) {
                case NATIVE:
                case HONEST:
                    return streets.towards(here, aim);
                case STRANGER:
                    return chooseBySign(streets, signs.latestFor(here, aim), here, came);
                case STUBBORN:
                    return streets.lastBut(here, came);
                default:
                    return NOWHERE;
            }
        }

        private static int chooseBySign(Streets streets, int shown, int here, int came) {
            boolean leads = shown != NOWHERE && streets.lengths[here][shown] > 0;
            return leads ? shown : streets.firstBut(here, came);
        }

        private int placeBehind(int k) {
            return places[Math.max(0, Math.min(k, steps))];
        }

        /** Nobody came from anywhere to where he begins, so that is never met again. */
        private int firstRepeat() {
            for (int k = 2; k <= steps; k++) {
                for (int earlier = 1; earlier < k; earlier++) {
                    if (places[k] == places[earlier] && places[k - 1] == places[earlier - 1]) {
                        return k;
                    }
                }
            }
            return NONE;
        }

        private void tallyWrong(int[] byCorner) {
            for (int k = 0; k < steps; k++) {
                if (strays[k]) {
                    byCorner[places[k]]++;
                }
            }
        }
    }

    /** The latest changes that can be undone; one too many pushes out the oldest. */
    private static final class Changes {
        private static final int PUT = 0;
        private static final int TAKEN = 1;
        private static final int TOLD = 2;
        private final int[] sorts = new int[MOST_UNDONE];
        private final int[] numbers = new int[MOST_UNDONE];
        private final int[] corners = new int[MOST_UNDONE];
        private final int[] aims = new int[MOST_UNDONE];
        private final int[] nexts = new int[MOST_UNDONE];
        private int oldest;
        private int count;

        private void clear() {
            oldest = 0;
            count = 0;
        }

        private void note(int sort, int number, int corner, int aim, int next) {
            if (count >= MOST_UNDONE) {
                oldest = (oldest + 1) % MOST_UNDONE;
                count = MOST_UNDONE - 1;
            }
            int slot = (oldest + count) % MOST_UNDONE;
            sorts[slot] = sort;
            numbers[slot] = number;
            corners[slot] = corner;
            aims[slot] = aim;
            nexts[slot] = next;
            count++;
        }

        private void revertLatest(Town town) {
            if (count == 0) {
                return;
            }
            count--;
            int slot = (oldest + count) % MOST_UNDONE;
            switch (sorts[slot]) {
                case PUT:
                    town.signs.remove(numbers[slot]);
                    break;
                case TAKEN:
                    town.signs.insert(numbers[slot], corners[slot], aims[slot], nexts[slot]);
                    break;
                default:
                    town.walkers.told[numbers[slot]] = aims[slot];
                    break;
            }
        }
    }

    /** Signs and aims told that are kept, the last on top. */
    private static final class Shelf {
        private final Signs[] signs = new Signs[MOST_KEPT];
        private final int[][] told = new int[MOST_KEPT][MOST_WALKERS];
        private int count;

        private Shelf() {
            for (int k = 0; k < MOST_KEPT; k++) {
                signs[k] = new Signs();
            }
        }

        private void store(Town town) {
            if (count < MOST_KEPT) {
                signs[count].copyFrom(town.signs);
                System.arraycopy(town.walkers.told, 0, told[count], 0, MOST_WALKERS);
                count++;
            }
        }

        private void restoreLast(Town town) {
            if (count > 0) {
                count--;
                town.signs.copyFrom(signs[count]);
                System.arraycopy(told[count], 0, town.walkers.told, 0, MOST_WALKERS);
            }
        }
    }

    /** Who was seen where, behind how many steps. */
    private static final class Sightings {
        private final int[] walkers = new int[MOST_SEEN];
        private final int[] corners = new int[MOST_SEEN];
        private final int[] steps = new int[MOST_SEEN];
        private int count;

        private void add(int walker, int corner, int behind) {
            if (count < MOST_SEEN) {
                walkers[count] = walker;
                corners[count] = corner;
                steps[count] = behind;
                count++;
            }
        }

        private boolean fit(int walker, Trip trip) {
            for (int k = 0; k < count; k++) {
                if (walkers[k] == walker && trip.placeBehind(steps[k]) != corners[k]) {
                    return false;
                }
            }
            return true;
        }
    }

    /** The first of those that are most, or least. */
    private static final class Pick {
        private int which;
        private int amount;

        private void clear() {
            which = NONE;
            amount = NONE;
        }

        private void offerMost(int candidate, int much) {
            if (which == NONE || much > amount) {
                which = candidate;
                amount = much;
            }
        }

        private void offerLeast(int candidate, int much) {
            if (which == NONE || much < amount) {
                which = candidate;
                amount = much;
            }
        }

        private int answer(int what) {
            return what == 0 ? which : amount;
        }
    }
}
