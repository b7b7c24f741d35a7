/**
 * The probate of a private man, who is peeled like an onion.
 * The words in capitals are those of the document ../shared/DOC.md.
 */
public final class OnionProbate {
    public static final int NONE = -1, UNKNOWN = -1000000001, OUTSIDE = -1000000002, NOT = -1000000003,
        FULL = -1000000004;

    private static final int BILLION = 1000000000;
    private static final int MOST_LETTERS = 240;
    private static final int MOST_LETTER = 255;
    private static final int MOST_FIGURES = 3;
    private static final int MOST_LAYERS = 12;
    private static final int MOST_EXECUTORS = 5;
    private static final int MOST_TYPES = 6;
    private static final int MOST_TYPE_LAYERS = 8;
    private static final int MOST_MIDDLE = 99;
    private static final int MOST_THICK = 20;
    private static final int MOST_CARED = 9;
    private static final int MOST_QUICK = 9;
    private static final int MOST_GOT = 9999;
    private static final int MOST_TEARS = 9999;
    private static final int MOST_LOGGED = 20;
    private static final int LOG_WIDTH = 4;
    private static final int MOST_DEEDS = 30;
    private static final int MOST_YEARS_AT_ONCE = 30;
    private static final int LAST_YEAR_TO_GO_ON = 9000;
    private static final int MOST_PARTS = 5;
    private static final int MOST_GUESSED = 6;
    private static final int MOST_BOOK = 20;
    private static final int MOST_DRY_YEARS = 60;
    private static final int HUNDRED = 100;
    /** What is answered with it could otherwise fall among the refusals and NONE. */
    private static final int LIFT = 1000;
    private static final int BUTTON_BONUS = 5;
    private static final int IMAGES = 2;

    private static final int KINDS = 5;
    private static final int THOUGHT = 1;
    private static final int LIKED = 2;
    private static final int SHOOT = 3;
    private static final int BUTTON = 4;

    private static final int FAULT_PLACE = 1;
    private static final int FAULT_NUMBER = 2;
    private static final int FAULT_TOO_MANY = 3;
    private static final int FAULT_BASE = -10;

    private final Reader reader;
    private Case theCase;
    /** A text is read here first, so that one with a FAULT leaves THE CASE alone. */
    private Case draft;
    private final Onion onion;
    private final Deeds deeds;
    private final Image[] images;
    private final Guesses guesses;
    private final Book book;
    private final Trial trial;
    private final Draws draws;

    public OnionProbate() {
        reader = new Reader();
        theCase = new Case();
        draft = new Case();
        onion = new Onion();
        deeds = new Deeds();
        images = new Image[IMAGES];
        for (int i = 0; i < IMAGES; i++) {
            images[i] = new Image();
        }
        guesses = new Guesses();
        book = new Book();
        trial = new Trial();
        draws = new Draws();
    }

    // ---- the case

    public int feed(int letter) {
        if (letter < 0 || letter > MOST_LETTER) {
            return OUTSIDE;
        }
        return reader.add(letter);
    }

    public int probate() {
        reader.readInto(draft);
        if (reader.faultNumber != 0) {
            return FAULT_BASE - reader.faultNumber;
        }
        Case old = theCase;
        theCase = draft;
        draft = old;
        onion.begin(theCase);
        guesses.count = 0;
        book.count = 0;
        deeds.forget();
        for (int i = 0; i < IMAGES; i++) {
            images[i].kept = false;
        }
        return onion.layers;
    }

    public int fault() {
        return reader.faultAt;
    }

    public int told(int what) {
        switch (what) {
            case 0: return theCase.isThere ? 1 : 0;
            case 1: return onion.layers;
            case 2: return theCase.executors;
            case 3: return theCase.types;
            case 4: return reader.length;
            case 5: return onion.years;
            case 6: return onion.stopped ? 1 : 0;
            case 7: return onion.found ? theCase.middle : 0;
            case 8: return onion.allThick();
            case 9: return onion.cut();
            case 10: return theCase.canBe(onion);
            case 11: return theCase.sureKind(onion);
            case 12: return onion.law();
            case 13: return spread(onion.got, theCase.executors);
            case 14: return onion.mostTears(theCase.executors);
            case 15: return onion.dryIn(theCase);
            case 16: return onion.entries;
            case 17: return guesses.count;
            case 18: return book.count;
            case 19: return deeds.count;
            default: return OUTSIDE;
        }
    }

    public int layer(int k, int what) {
        if (!onion.hasLayer(k)) {
            return UNKNOWN;
        }
        switch (what) {
            case 0: return onion.kinds[k];
            case 1: return onion.thicks[k];
            case 2: return onion.worthOf(k);
            case 3: return onion.stingOf(k);
            default: return OUTSIDE;
        }
    }

    public int executor(int e, int what) {
        if (!theCase.hasExecutor(e)) {
            return UNKNOWN;
        }
        switch (what) {
            case 0: return theCase.cared[e];
            case 1: return theCase.quick[e];
            case 2: return onion.got[e];
            case 3: return onion.tears[e];
            case 4: return onion.peeled[e];
            default: return OUTSIDE;
        }
    }

    public int type(int t, int k) {
        if (t < 0 || t >= theCase.types) {
            return UNKNOWN;
        }
        if (k < 0 || k >= MOST_TYPE_LAYERS) {
            return OUTSIDE;
        }
        return theCase.kindOfType(t, k);
    }

    public int logged(int i, int what) {
        if (what < 0 || what >= LOG_WIDTH) {
            return OUTSIDE;
        }
        if (i < 0 || i >= onion.entries) {
            return NONE;
        }
        return onion.log[i * LOG_WIDTH + what];
    }

    // ---- deeds

    public int peel(int e) {
        if (!theCase.hasExecutor(e)) {
            return UNKNOWN;
        }
        if (!onion.canBePeeled()) {
            return NOT;
        }
        deeds.remember(onion);
        return onion.takeOff(e, theCase.cared[e]);
    }

    public int stop(boolean is) {
        if (!theCase.isThere) {
            return NOT;
        }
        deeds.remember(onion);
        int was = onion.stopped ? 1 : 0;
        onion.stopped = is;
        return was;
    }

    public int visit() {
        if (onion.layers == 0) {
            return NOT;
        }
        deeds.remember(onion);
        onion.thicken();
        return onion.thicks[0];
    }

    public int year(int n) {
        int refusal = refusalOfYears(n);
        if (refusal != 0) {
            return refusal;
        }
        for (int i = 0; i < n; i++) {
            deeds.remember(onion);
            onion.passYear(theCase);
        }
        return onion.years;
    }

    public int drift(int n) {
        int refusal = refusalOfYears(n);
        if (refusal != 0) {
            return refusal;
        }
        for (int i = 0; i < n; i++) {
            deeds.remember(onion);
            if (theCase.executors > 0) {
                doByDraw();
            }
            onion.passYear(theCase);
        }
        return onion.years;
    }

    public int undo(int n) {
        if (n < 1 || n > MOST_DEEDS) {
            return OUTSIDE;
        }
        if (n > deeds.count) {
            return NOT;
        }
        deeds.takeBack(n, onion);
        return onion.years;
    }

    // ---- tried

    public int worthIt(int e, int what) {
        if (!theCase.hasExecutor(e)) {
            return UNKNOWN;
        }
        switch (what) {
            case 0: return Trial.bestPeels(onion, theCase.cared[e]);
            case 1: return LIFT + Trial.gainOf(onion, theCase.cared[e], Trial.bestPeels(onion, theCase.cared[e]));
            default: return OUTSIDE;
        }
    }

    public int parts(int n, int what) {
        if (n < 1 || n > MOST_PARTS || what < 0 || what > 1) {
            return OUTSIDE;
        }
        if (onion.layers < n) {
            return NONE;
        }
        int firstPart = trial.partUp(onion, n);
        return what == 0 ? trial.row[0] : firstPart;
    }

    public int byTurns(int what) {
        if (what < 0 || what > 1) {
            return OUTSIDE;
        }
        int first = trial.playByTurns(onion);
        return what == 0 ? LIFT + trial.row[0] : first;
    }

    public int twoSides(int what) {
        // The outer one goes first, so that he has the LAYER in the middle, if there is one.
        int outer = onion.layers - onion.layers / 2;
        switch (what) {
            case 0: return onion.worthBetween(0, outer);
            case 1: return onion.worthBetween(outer, onion.layers);
            case 2: return onion.layers == 0 ? NONE : onion.layers / 2;
            default: return OUTSIDE;
        }
    }

    public int nextKind(int kind) {
        if (kind < 0 || kind >= KINDS) {
            return OUTSIDE;
        }
        return theCase.countNext(onion, kind);
    }

    public int allows(int kind) {
        if (kind < 0 || kind >= KINDS) {
            return OUTSIDE;
        }
        return onion.layersUnder(kind, theCase.lawOfTypes());
    }

    public int run(int what) {
        if (what < 0 || what > 1) {
            return OUTSIDE;
        }
        int first = onion.startOfLongestRow();
        if (what == 1) {
            return first;
        }
        return first == NONE ? 0 : onion.rowFrom(first);
    }

    public int fair(int k) {
        if (k != NONE && !onion.hasLayer(k)) {
            return UNKNOWN;
        }
        if (theCase.executors == 0) {
            return NONE;
        }
        int taker = trial.shareOut(onion, theCase.executors, k);
        return k == NONE ? spread(trial.shares, theCase.executors) : taker;
    }

    public int dry(int n, int q) {
        if (n < 0 || n > MOST_DRY_YEARS || q < 0 || q > HUNDRED) {
            return OUTSIDE;
        }
        long odds = BILLION;
        for (int i = 0; i < n; i++) {
            odds = odds * q / HUNDRED;
        }
        return (int) odds;
    }

    // ---- what was guessed

    public int guess(int k, int kind, boolean is) {
        if (k < 0 || k >= MOST_TYPE_LAYERS || kind < 0 || kind >= KINDS) {
            return OUTSIDE;
        }
        return guesses.add(k, kind, is);
    }

    public int couldBe() {
        return guesses.fitting(theCase);
    }

    public int ask() {
        return trial.bestQuestion(theCase, guesses.fitting(theCase));
    }

    public int write(int e, int got) {
        if (!theCase.hasExecutor(e)) {
            return UNKNOWN;
        }
        if (got < 0 || got > MOST_GOT) {
            return OUTSIDE;
        }
        return book.add(e, got);
    }

    public int judge() {
        return book.firstWrong(onion);
    }

    public int tear() {
        int had = guesses.count + book.count;
        guesses.count = 0;
        book.count = 0;
        return had;
    }

    // ---- images

    public int seed(int v) {
        if (v < 0) {
            return OUTSIDE;
        }
        int was = draws.state;
        draws.state = v;
        return was;
    }

    public int keep(int i) {
        if (i < 0 || i >= IMAGES) {
            return UNKNOWN;
        }
        images[i].kept = true;
        images[i].onion.copy(onion);
        images[i].drawState = draws.state;
        deeds.forget();
        return 1;
    }

    public int goBack(int i) {
        if (i < 0 || i >= IMAGES) {
            return UNKNOWN;
        }
        if (!images[i].kept) {
            return NOT;
        }
        onion.copy(images[i].onion);
        draws.state = images[i].drawState;
        deeds.forget();
        return 1;
    }

    // ---- what several calls need

    /** The refusal of n YEARS now, or 0. */
    private int refusalOfYears(int n) {
        if (n < 1 || n > MOST_YEARS_AT_ONCE) {
            return OUTSIDE;
        }
        if (!theCase.isThere) {
            return NOT;
        }
        return onion.years > LAST_YEAR_TO_GO_ON ? FULL : 0;
    }

    /** What one DRAW of 6 brings, ahead of a YEAR. */
    private void doByDraw() {
        switch (draws.below(6)) {
            case 0:
            case 1:
                // The EXECUTOR is drawn even if nobody can peel now: whether he can is asked of him.
                int e = draws.below(theCase.executors);
                if (onion.canBePeeled() && theCase.hasExecutor(e)) {
                    onion.takeOff(e, theCase.cared[e]);
                }
                break;
            case 2:
                if (onion.layers > 0) {
                    onion.thicken();
                }
                break;
            case 3:
                onion.stopped = !onion.stopped;
                break;
            default:
                break;
        }
    }

    /** ENVY: the greatest of the first numbers less the least; 0 without any. */
    private static int spread(int[] numbers, int count) {
        if (count < 1 || count > numbers.length) {
            return 0;
        }
        int least = numbers[0];
        int most = numbers[0];
        for (int i = 1; i < count; i++) {
            least = Math.min(least, numbers[i]);
            most = Math.max(most, numbers[i]);
        }
        return most - least;
    }

    /** The bit of a pair of KINDS in a LAW. */
    private static int pairBit(int upper, int lower) {
        return 1 << (KINDS * upper + lower);
    }

    /** THE TEXT, how it is read, and the FAULT of the latest reading. */
    private static final class Reader {
        private final int[] letters = new int[MOST_LETTERS];
        private final int[] typeRow = new int[MOST_TYPE_LAYERS];
        private int length = 0;
        private int at = 0;
        private int faultNumber = 0;
        private int faultAt = NONE;

        int add(int letter) {
            if (length >= MOST_LETTERS) {
                return FULL;
            }
            letters[length] = letter;
            length++;
            return length;
        }

        /** Afterwards THE TEXT is empty; without a FAULT the Case is what it said. */
        void readInto(Case theCase) {
            theCase.clear();
            at = 0;
            faultNumber = 0;
            faultAt = NONE;
            skipBlanks();
            // Blanks may stand anywhere, so that a text of them alone says no more than an empty one.
            theCase.isThere = at < length;
            for (int i = 0; i < MOST_LETTERS && faultNumber == 0 && at < length; i++) {
                readClause(theCase);
            }
            length = 0;
        }

        private void readClause(Case theCase) {
            int word = here();
            boolean known = word == 'm' || word == 'l' || word == 'e' || word == 't';
            if (!known || (word != 'm' && theCase.middle == NONE)) {
                blame(FAULT_PLACE, at);
                return;
            }
            if (theCase.isFullOf(word)) {
                blame(FAULT_TOO_MANY, at);
                return;
            }
            at++;
            readRest(word, theCase);
            if (here() != ';') {
                blame(FAULT_PLACE, at);
                return;
            }
            at++;
            skipBlanks();
        }

        /** What stands between a clause's word and its ';'. */
        private void readRest(int word, Case theCase) {
            if (word == 'm') {
                theCase.middle = readNumber(0, MOST_MIDDLE);
            } else if (word == 'l') {
                int kind = readNumber(0, KINDS - 1);
                theCase.addLayer(kind, readNumber(1, MOST_THICK));
            } else if (word == 'e') {
                int cared = readNumber(0, MOST_CARED);
                theCase.addExecutor(cared, readNumber(1, MOST_QUICK));
            } else {
                readType(theCase);
            }
        }

        /** A ninth KIND is not read: its ',' then stands where ';' must be. */
        private void readType(Case theCase) {
            int count = 0;
            boolean more = true;
            while (more && count < MOST_TYPE_LAYERS) {
                typeRow[count] = readNumber(0, KINDS - 1);
                count++;
                more = count < MOST_TYPE_LAYERS && here() == ',';
                if (more) {
                    at++;
                }
            }
            theCase.addType(typeRow, count);
        }

        private int readNumber(int least, int most) {
            skipBlanks();
            int first = at;
            int value = 0;
            while (at < length && letters[at] >= '0' && letters[at] <= '9') {
                // Figures past the third are a FAULT in any case, and could make it too big to hold.
                if (at - first < MOST_FIGURES) {
                    value = value * 10 + letters[at] - '0';
                }
                at++;
            }
            if (at == first) {
                blame(FAULT_PLACE, at);
            } else if (at - first > MOST_FIGURES || value < least || value > most) {
                blame(FAULT_NUMBER, first);
            }
            skipBlanks();
            return value;
        }

        private void skipBlanks() {
            while (at < length && letters[at] == ' ') {
                at++;
            }
        }

        /** The letter that is next; NONE: the end. */
        private int here() {
            return at < length ? letters[at] : NONE;
        }

        /** Reading goes on to the clause's end, from left to right, so that the first blame is the one that counts. */
        private void blame(int number, int place) {
            if (faultNumber == 0) {
                faultNumber = number;
                faultAt = place;
            }
        }
    }

    /** What the text said; it does not change till the next text. */
    private static final class Case {
        private boolean isThere = false;
        /** NONE: no 'm' yet. */
        private int middle = NONE;
        private int layers = 0;
        private int executors = 0;
        private int types = 0;
        private final int[] kinds = new int[MOST_LAYERS];
        private final int[] thicks = new int[MOST_LAYERS];
        private final int[] cared = new int[MOST_EXECUTORS];
        private final int[] quick = new int[MOST_EXECUTORS];
        private final int[] typeLengths = new int[MOST_TYPES];
        private final int[][] typeKinds = new int[MOST_TYPES][MOST_TYPE_LAYERS];

        void clear() {
            isThere = false;
            middle = NONE;
            layers = 0;
            executors = 0;
            types = 0;
        }

        boolean hasExecutor(int e) {
            return e >= 0 && e < executors;
        }

        /** No clause with this word may come any more. */
        boolean isFullOf(int word) {
            switch (word) {
                case 'm': return middle != NONE;
                case 'l': return layers >= MOST_LAYERS;
                case 'e': return executors >= MOST_EXECUTORS;
                default: return types >= MOST_TYPES;
            }
        }

        void addLayer(int kind, int thick) {
            if (layers < MOST_LAYERS) {
                kinds[layers] = kind;
                thicks[layers] = thick;
                layers++;
            }
        }

        void addExecutor(int care, int speed) {
            if (executors < MOST_EXECUTORS) {
                cared[executors] = care;
                quick[executors] = speed;
                executors++;
            }
        }

        void addType(int[] row, int count) {
            if (types < MOST_TYPES && count >= 0 && count <= MOST_TYPE_LAYERS && count <= row.length) {
                System.arraycopy(row, 0, typeKinds[types], 0, count);
                typeLengths[types] = count;
                types++;
            }
        }

        /** NONE: the TYPE is not so deep. */
        int kindOfType(int t, int k) {
            if (t < 0 || t >= types || k < 0 || k >= typeLengths[t]) {
                return NONE;
            }
            return typeKinds[t][k];
        }

        /** CAN BE. */
        int canBe(Onion onion) {
            int set = 0;
            for (int t = 0; t < types; t++) {
                if (beginsAs(t, onion)) {
                    set |= 1 << t;
                }
            }
            return set;
        }

        private boolean beginsAs(int t, Onion onion) {
            int both = Math.min(typeLengths[t], onion.layers);
            for (int k = 0; k < both; k++) {
                if (typeKinds[t][k] != onion.kinds[k]) {
                    return false;
                }
            }
            return true;
        }

        /** NEXT KIND. */
        int countNext(Onion onion, int kind) {
            int count = 0;
            for (int t = 0; t < types; t++) {
                if (kindOfType(t, onion.layers) == kind && beginsAs(t, onion)) {
                    count++;
                }
            }
            return count;
        }

        /** SURE. */
        int sureKind(Onion onion) {
            int sure = NONE;
            for (int kind = 0; kind < KINDS; kind++) {
                if (countNext(onion, kind) > 0) {
                    if (sure != NONE) {
                        return NONE;
                    }
                    sure = kind;
                }
            }
            return sure;
        }

        /** The pairs that are in TYPES, as a LAW has them. */
        int lawOfTypes() {
            int law = 0;
            for (int t = 0; t < types; t++) {
                for (int k = 1; k < typeLengths[t]; k++) {
                    law |= pairBit(typeKinds[t][k - 1], typeKinds[t][k]);
                }
            }
            return law;
        }
    }

    /** All of section 2: the LAYERS, who has got what, who weeps how much, THE LOG. */
    private static final class Onion {
        private int layers = 0;
        private final int[] kinds = new int[MOST_LAYERS];
        private final int[] thicks = new int[MOST_LAYERS];
        private final int[] got = new int[MOST_EXECUTORS];
        private final int[] tears = new int[MOST_EXECUTORS];
        private final int[] peeled = new int[MOST_EXECUTORS];
        /** The latest entry first: YEAR, EXECUTOR, KIND, T of each. */
        private final int[] log = new int[MOST_LOGGED * LOG_WIDTH];
        private int entries = 0;
        private int years = 0;
        private boolean stopped = false;
        private boolean found = false;
        private int lastPeeler = NONE;

        void begin(Case theCase) {
            layers = theCase.layers;
            System.arraycopy(theCase.kinds, 0, kinds, 0, MOST_LAYERS);
            System.arraycopy(theCase.thicks, 0, thicks, 0, MOST_LAYERS);
            for (int e = 0; e < MOST_EXECUTORS; e++) {
                got[e] = 0;
                tears[e] = 0;
                peeled[e] = 0;
            }
            entries = 0;
            years = 0;
            stopped = false;
            found = theCase.isThere && layers == 0;
            lastPeeler = NONE;
        }

        void copy(Onion other) {
            layers = other.layers;
            System.arraycopy(other.kinds, 0, kinds, 0, MOST_LAYERS);
            System.arraycopy(other.thicks, 0, thicks, 0, MOST_LAYERS);
            System.arraycopy(other.got, 0, got, 0, MOST_EXECUTORS);
            System.arraycopy(other.tears, 0, tears, 0, MOST_EXECUTORS);
            System.arraycopy(other.peeled, 0, peeled, 0, MOST_EXECUTORS);
            System.arraycopy(other.log, 0, log, 0, MOST_LOGGED * LOG_WIDTH);
            entries = other.entries;
            years = other.years;
            stopped = other.stopped;
            found = other.found;
            lastPeeler = other.lastPeeler;
        }

        boolean hasLayer(int k) {
            return k >= 0 && k < layers;
        }

        boolean canBePeeled() {
            return layers > 0 && !stopped;
        }

        int worthOf(int k) {
            if (!hasLayer(k)) {
                return 0;
            }
            switch (kinds[k]) {
                case THOUGHT: return thicks[k] / 2;
                case LIKED: return 2 * thicks[k];
                case BUTTON: return 0;
                default: return thicks[k];
            }
        }

        int stingOf(int k) {
            if (!hasLayer(k)) {
                return 0;
            }
            switch (kinds[k]) {
                case LIKED: return 2 * thicks[k];
                case BUTTON: return 0;
                default: return thicks[k];
            }
        }

        int worthBetween(int from, int to) {
            int sum = 0;
            for (int k = from; k < to; k++) {
                sum += worthOf(k);
            }
            return sum;
        }

        /** PEELED by an EXECUTOR: its WORTH. */
        int takeOff(int e, int cared) {
            if (layers < 1 || e < 0 || e >= MOST_EXECUTORS) {
                return 0;
            }
            int worth = worthOf(0);
            got[e] = Math.min(MOST_GOT, got[e] + worth);
            tears[e] = Math.min(MOST_TEARS, tears[e] + stingOf(0) + cared);
            peeled[e]++;
            if (kinds[0] == BUTTON && lastPeeler >= 0 && lastPeeler < MOST_EXECUTORS) {
                got[lastPeeler] = Math.min(MOST_GOT, got[lastPeeler] + BUTTON_BONUS);
            }
            lastPeeler = e;
            enter(e);
            layers--;
            System.arraycopy(kinds, 1, kinds, 0, MOST_LAYERS - 1);
            System.arraycopy(thicks, 1, thicks, 0, MOST_LAYERS - 1);
            if (layers == 0) {
                found = true;
            }
            return worth;
        }

        /** ENTERED: the outmost LAYER, before it is gone. */
        private void enter(int e) {
            System.arraycopy(log, 0, log, LOG_WIDTH, (MOST_LOGGED - 1) * LOG_WIDTH);
            log[0] = years;
            log[1] = e;
            log[2] = kinds[0];
            log[3] = thicks[0];
            entries = Math.min(MOST_LOGGED, entries + 1);
        }

        /** VISITED. */
        void thicken() {
            if (layers < 1) {
                return;
            }
            if (thicks[0] < MOST_THICK) {
                thicks[0]++;
            } else if (layers < MOST_LAYERS) {
                System.arraycopy(kinds, 0, kinds, 1, MOST_LAYERS - 1);
                System.arraycopy(thicks, 0, thicks, 1, MOST_LAYERS - 1);
                kinds[0] = LIKED;
                thicks[0] = 1;
                layers++;
            }
        }

        void passYear(Case theCase) {
            for (int k = 0; k < layers; k++) {
                if (kinds[k] == SHOOT) {
                    thicks[k] = Math.min(MOST_THICK, thicks[k] + 1);
                }
            }
            for (int e = 0; e < theCase.executors; e++) {
                tears[e] = Math.max(0, tears[e] - theCase.quick[e]);
            }
            years++;
        }

        int allThick() {
            int sum = 0;
            for (int k = 0; k < layers; k++) {
                sum += thicks[k];
            }
            return sum;
        }

        int cut() {
            int half = allThick() / 2;
            int sum = 0;
            for (int k = 0; k < layers; k++) {
                sum += thicks[k];
                if (sum > half) {
                    return k;
                }
            }
            return NONE;
        }

        int law() {
            int law = 0;
            for (int k = 1; k < layers; k++) {
                law |= pairBit(kinds[k - 1], kinds[k]);
            }
            return law;
        }

        /** ALLOWS: the LAYERS on which this KIND lies by a LAW. */
        int layersUnder(int kind, int law) {
            int set = 0;
            for (int k = 0; k < layers; k++) {
                if ((law & pairBit(kind, kinds[k])) != 0) {
                    set |= 1 << k;
                }
            }
            return set;
        }

        /** How many LAYERS of one KIND there are from this one on. */
        int rowFrom(int first) {
            if (!hasLayer(first)) {
                return 0;
            }
            int k = first + 1;
            while (k < layers && kinds[k] == kinds[first]) {
                k++;
            }
            return k - first;
        }

        int startOfLongestRow() {
            int best = NONE;
            int most = 0;
            for (int k = 0; k < layers; k++) {
                int row = rowFrom(k);
                if (row > most) {
                    most = row;
                    best = k;
                }
            }
            return best;
        }

        /** WEEPS. */
        int mostTears(int executors) {
            int best = NONE;
            int most = NONE;
            for (int e = 0; e < executors && e < MOST_EXECUTORS; e++) {
                if (tears[e] > most) {
                    most = tears[e];
                    best = e;
                }
            }
            return best;
        }

        int dryIn(Case theCase) {
            int most = 0;
            for (int e = 0; e < theCase.executors; e++) {
                int quick = Math.max(1, theCase.quick[e]);
                most = Math.max(most, (tears[e] + quick - 1) / quick);
            }
            return most;
        }
    }

    /** The Onion as it was ahead of each of the latest deeds, in a ring. */
    private static final class Deeds {
        private final Onion[] before = new Onion[MOST_DEEDS];
        private int next = 0;
        private int count = 0;

        Deeds() {
            for (int i = 0; i < MOST_DEEDS; i++) {
                before[i] = new Onion();
            }
        }

        void forget() {
            next = 0;
            count = 0;
        }

        void remember(Onion onion) {
            before[next].copy(onion);
            next = (next + 1) % MOST_DEEDS;
            count = Math.min(MOST_DEEDS, count + 1);
        }

        void takeBack(int n, Onion onion) {
            if (n < 1 || n > count) {
                return;
            }
            next = (next + MOST_DEEDS - n) % MOST_DEEDS;
            count -= n;
            onion.copy(before[next]);
        }
    }

    /** An IMAGE to go on from. */
    private static final class Image {
        private boolean kept = false;
        private final Onion onion = new Onion();
        private int drawState = 0;
    }

    /** THE SEED, and what is drawn by it. */
    private static final class Draws {
        private int state = 0;

        /** The DRAW of n. The mask is the rest by 2 to the 31, of what wrapped around too. */
        int below(int n) {
            state = (state * 1103515245 + 12345) & 0x7fffffff;
            return n < 1 ? 0 : state / 65536 % n;
        }
    }

    /** What is GUESSED of an unknown man. */
    private static final class Guesses {
        private final int[] layerOf = new int[MOST_GUESSED];
        private final int[] kindOf = new int[MOST_GUESSED];
        private final boolean[] isSo = new boolean[MOST_GUESSED];
        private int count = 0;

        int add(int k, int kind, boolean is) {
            if (count >= MOST_GUESSED) {
                return FULL;
            }
            layerOf[count] = k;
            kindOf[count] = kind;
            isSo[count] = is;
            count++;
            return count;
        }

        /** COULD BE. */
        int fitting(Case theCase) {
            int set = 0;
            for (int t = 0; t < theCase.types; t++) {
                if (fits(theCase, t)) {
                    set |= 1 << t;
                }
            }
            return set;
        }

        private boolean fits(Case theCase, int t) {
            for (int i = 0; i < count; i++) {
                boolean same = theCase.kindOfType(t, layerOf[i]) == kindOf[i];
                if (same != isSo[i]) {
                    return false;
                }
            }
            return true;
        }
    }

    /** THE BOOK. */
    private static final class Book {
        private final int[] executorOf = new int[MOST_BOOK];
        private final int[] gotOf = new int[MOST_BOOK];
        private int count = 0;

        int add(int e, int got) {
            if (count >= MOST_BOOK) {
                return FULL;
            }
            executorOf[count] = e;
            gotOf[count] = got;
            count++;
            return count;
        }

        /** WRONG. */
        int firstWrong(Onion onion) {
            for (int i = 0; i < count; i++) {
                int e = executorOf[i];
                if (e >= 0 && e < MOST_EXECUTORS && onion.got[e] != gotOf[i]) {
                    return i;
                }
            }
            return NONE;
        }
    }

    /** What is TRIED: the rows are kept, so that no call makes new ones. */
    private static final class Trial {
        /** By the LAYER from which on something is tried; the last is for none left. */
        private final int[] row = new int[MOST_LAYERS + 1];
        private final int[] stingAbove = new int[MOST_LAYERS + 1];
        private final int[] shares = new int[MOST_EXECUTORS];
        /** How many TYPES are alike, by KIND; the last one counts those without. */
        private final int[] alike = new int[KINDS + 1];

        /** WORTH IT: how many. */
        static int bestPeels(Onion onion, int cared) {
            int best = 0;
            int most = 0;
            for (int n = 1; n <= onion.layers; n++) {
                int gain = gainOf(onion, cared, n);
                if (gain > most) {
                    most = gain;
                    best = n;
                }
            }
            return best;
        }

        /** What one has of the n outmost LAYERS, less the tears for them. */
        static int gainOf(Onion onion, int cared, int n) {
            int gain = 0;
            for (int k = 0; k < n && k < onion.layers; k++) {
                gain += onion.worthOf(k) - onion.stingOf(k) - cared;
                if (k > 0 && onion.kinds[k] == BUTTON) {
                    gain += BUTTON_BONUS;
                }
            }
            return gain;
        }

        /**
         * PARTS: the LAYERS in the first one; row[0] is the greatest STING. For 1 part, then 2 and so on, row[i]
         * is the least that the greatest STING can be from LAYER i on.
         */
        int partUp(Onion onion, int n) {
            int layers = onion.layers;
            stingAbove[0] = 0;
            for (int i = 0; i < layers; i++) {
                stingAbove[i + 1] = stingAbove[i] + onion.stingOf(i);
            }
            for (int i = 0; i < layers; i++) {
                row[i] = stingAbove[layers] - stingAbove[i];
            }
            int first = layers;
            for (int parts = 2; parts <= n; parts++) {
                first = firstPartEnd(0, layers - parts + 1);
                // From the outside in: what lies deeper is then still that of one part less.
                for (int i = 0; i + parts <= layers; i++) {
                    row[i] = greatestWith(i, firstPartEnd(i, layers - parts + 1));
                }
            }
            return first;
        }

        /** Where the first part best ends, at most there; of like ones the shortest. */
        private int firstPartEnd(int from, int lastEnd) {
            int best = from + 1;
            for (int end = from + 2; end <= lastEnd; end++) {
                if (greatestWith(from, end) < greatestWith(from, best)) {
                    best = end;
                }
            }
            return best;
        }

        /** The greatest STING if the first part ends ahead of LAYER end, and the others are parted best. */
        private int greatestWith(int from, int end) {
            if (from < 0 || end < from || end > MOST_LAYERS) {
                return 0;
            }
            return Math.max(stingAbove[end] - stingAbove[from], row[end]);
        }

        /** BY TURNS: how many the first should peel first; row[0] is how much more he has. */
        int playByTurns(Onion onion) {
            row[onion.layers] = 0;
            int peels = 0;
            for (int i = onion.layers - 1; i >= 0; i--) {
                int one = onion.worthOf(i) - row[i + 1];
                peels = 1;
                row[i] = one;
                if (i + 2 <= onion.layers) {
                    int two = onion.worthOf(i) + onion.worthOf(i + 1) - row[i + 2];
                    if (two > one) {
                        peels = 2;
                        row[i] = two;
                    }
                }
            }
            return peels;
        }

        /** FAIR: who takes LAYER k, or NONE; the shares are what each has then. */
        int shareOut(Onion onion, int executors, int k) {
            System.arraycopy(onion.got, 0, shares, 0, MOST_EXECUTORS);
            int taker = NONE;
            for (int i = 0; i < onion.layers; i++) {
                int e = poorest(executors);
                if (e != NONE) {
                    shares[e] += onion.worthOf(i);
                }
                if (i == k) {
                    taker = e;
                }
            }
            return taker;
        }

        private int poorest(int executors) {
            int best = NONE;
            for (int e = 0; e < executors && e < MOST_EXECUTORS; e++) {
                if (best == NONE || shares[e] < shares[best]) {
                    best = e;
                }
            }
            return best;
        }

        /** ASK, among a SET of TYPES. */
        int bestQuestion(Case theCase, int set) {
            int best = NONE;
            int least = Integer.bitCount(set);
            for (int k = 0; k < MOST_TYPE_LAYERS; k++) {
                int greatest = greatestAlike(theCase, set, k);
                if (greatest < least) {
                    least = greatest;
                    best = k;
                }
            }
            return best;
        }

        private int greatestAlike(Case theCase, int set, int k) {
            for (int kind = 0; kind <= KINDS; kind++) {
                alike[kind] = 0;
            }
            int greatest = 0;
            for (int t = 0; t < theCase.types; t++) {
                if ((set & 1 << t) != 0) {
                    int kind = theCase.kindOfType(t, k);
                    int place = kind >= 0 && kind < KINDS ? kind : KINDS;
                    alike[place]++;
                    greatest = Math.max(greatest, alike[place]);
                }
            }
            return greatest;
        }
    }
}
