/**
 * A tower whose peals announce things, and what comes of ringing them back.
 * ../shared/DOC.md says what each call answers; README.md says how to use it.
 */
public final class RungBackwards {
    public static final int NONE = -1;

    private static final int BAD = -2;
    private static final int OTHER = -3;
    private static final int NOTHING = -4;
    private static final int STUCK = -5;
    private static final int FULL = -6;

    private final Tower now = new Tower();
    private final Tower kept = new Tower();
    /** Where a reading or a peal is tried out, so that nothing changes if it fails. */
    private final Tower draft = new Tower();
    private final Shelves shelves = new Shelves();
    private final Tape tape = new Tape();
    private final Reader reader = new Reader();
    private final int[] refusals = new int[5];
    private boolean somethingKept = false;

    public RungBackwards() {
    }

    // ---- shelves

    public int row(int s, int sort, int n) {
        if (!Shelves.isShelf(s) || !upTo(sort, Shelves.BOOLEANS) || !upTo(n, Shelves.MOST_ELEMENTS)) {
            return refuse(BAD);
        }
        shelves.putRow(s, sort, n);
        return 1;
    }

    public int set(int s, int i, long v) {
        int refusal = refusalOfRow(s);
        if (refusal != 0) {
            return refuse(refusal);
        }
        if (i < 0 || i >= shelves.sizeOf(s)) {
            return refuse(BAD);
        }
        shelves.putElement(s, i, v);
        return 1;
    }

    public int copy(int p, int q, int i, int j, int n) {
        if (!Shelves.isShelf(p) || !Shelves.isShelf(q)) {
            return refuse(BAD);
        }
        if (shelves.hasRinger(p) || shelves.hasRinger(q)) {
            return refuse(OTHER);
        }
        boolean both = shelves.hasRow(p) && shelves.hasRow(q);
        if (both && shelves.heldIn(p) != shelves.heldIn(q)) {
            return refuse(OTHER);
        }
        if (!both) {
            return refuse(NOTHING);
        }
        if (!shelves.hasPart(p, i, n) || !shelves.hasPart(q, j, n)) {
            return refuse(BAD);
        }
        shelves.move(p, q, i, j, n);
        return n;
    }

    public long element(int s, int i) {
        return shelves.elementAt(s, i);
    }

    public int holds(int s) {
        return shelves.heldIn(s);
    }

    public int show(int s, int ringer) {
        if (!Shelves.isShelf(s) || ringer != NONE && !now.band.isRinger(ringer)) {
            return refuse(BAD);
        }
        shelves.putRinger(s, ringer);
        return 1;
    }

    public int says(int s, int kind) {
        if (!Shelves.isShelf(s) || !upTo(kind, Band.DEAF)) {
            return refuse(BAD);
        }
        int ringer = shelves.ringerIn(s);
        boolean isOne = ringer != NONE && Band.isUnder(now.band.kindOf(ringer), kind);
        if (shelves.hasRow(s) || ringer != NONE && !isOne) {
            return refuse(OTHER);
        }
        if (ringer == NONE) {
            return refuse(NOTHING);
        }
        return kind == Band.RINGER ? now.band.bellOf(ringer) : now.band.slipOf(ringer, now.cracked);
    }

    // ---- the tower is made and told

    public int thing(int worth, int weather) {
        if (!upTo(worth, Tower.most(Tower.WORTH)) || !upTo(weather, Tower.LAST_WEATHER)) {
            return refuse(BAD);
        }
        if (!now.hasRoom()) {
            return refuse(FULL);
        }
        return now.addThing(worth, weather);
    }

    public int ringer(int kind, int a, int bell) {
        if (!upTo(kind, Band.DEAF) || !upTo(a, Band.MOST_A) || !upTo(bell, Tower.LAST_BELL)) {
            return refuse(BAD);
        }
        if (!now.band.hasRoom()) {
            return refuse(FULL);
        }
        return now.band.addRinger(kind, a, bell);
    }

    public int hang(int thing, int lesser, int on) {
        if (!now.isThing(thing) || lesser < 0 || lesser >= thing || !upTo(on, 1)) {
            return refuse(BAD);
        }
        int ahead = bitOf(now.hungOf(thing), lesser);
        now.hangThing(thing, lesser, on == 1);
        return ahead;
    }

    public int give(int thing, int what, int v) {
        if (!now.isThing(thing) || !upTo(what, Tower.BEEN) || !upTo(v, Tower.most(what))) {
            return refuse(BAD);
        }
        int ahead = now.partOf(thing, what);
        now.changePart(thing, what, v);
        return ahead;
    }

    public int tell(int what, int v) {
        if (!upTo(what, 2) || !upTo(v, Tower.mostTold(what))) {
            return refuse(BAD);
        }
        int ahead = now.toldOf(what);
        now.changeTold(what, v);
        return ahead;
    }

    // ---- the tape

    public int feed(int letter) {
        if (!upTo(letter, 255)) {
            return refuse(BAD);
        }
        if (!tape.hasRoom()) {
            return refuse(FULL);
        }
        return tape.add(letter);
    }

    public int wipe() {
        return tape.empty();
    }

    public int tower() {
        draft.takeFrom(now);
        int read = reader.readTower(tape, draft);
        tape.empty();
        if (reader.fault != NONE) {
            refuse(BAD);
            return -20 - reader.fault;
        }
        now.takeFrom(draft);
        return read;
    }

    // ---- what there is

    public int thingOf(int thing, int what) {
        if (!now.isThing(thing) || !upTo(what, Tower.MAY)) {
            return refuse(BAD);
        }
        return now.partOf(thing, what);
    }

    public int ringerOf(int ringer, int what) {
        if (!now.band.isRinger(ringer) || !upTo(what, 3)) {
            return refuse(BAD);
        }
        switch (what) {
            case 0: return now.band.kindOf(ringer);
            case 1: return now.band.aOf(ringer);
            case 2: return now.band.bellOf(ringer);
            default: return now.band.slipOf(ringer, now.cracked);
        }
    }

    public int well(int ringers) {
        if (!now.band.areRingers(ringers)) {
            return refuse(BAD);
        }
        return now.band.wellOf(ringers, now.cracked);
    }

    public int all(int what) {
        switch (what) {
            case 0: return now.standing(now.been);
            case 1: return now.valueNow();
            case 2: return now.been;
            case 3: return now.allThatMay(1);
            case 4: return now.allThatMay(2);
            default: return refuse(BAD);
        }
    }

    public int off(int thing) {
        return now.isThing(thing) ? now.offBy(thing) : refuse(BAD);
    }

    public int down(int thing) {
        return now.isThing(thing) ? now.downOf(thing) : refuse(BAD);
    }

    public int up(int thing) {
        return now.isThing(thing) ? now.upOf(thing) : refuse(BAD);
    }

    // ---- what to ring back, and what comes of it

    public int to(int things) {
        return now.areThings(things) ? Choice.leastLeaving(now, things) : refuse(BAD);
    }

    public int unsay(int things) {
        return now.areThings(things) ? Choice.leastUnsaying(now, things) : refuse(BAD);
    }

    public int until(int things) {
        return now.areThings(things) ? now.daysUntil(things) : refuse(BAD);
    }

    public int slipped(int thing, int k) {
        if (!now.isThing(thing) || k < 1 || k > 9) {
            return refuse(BAD);
        }
        return now.offBy(now.beyond(thing, k));
    }

    public int whose(int v) {
        return upTo(v, Band.MOST_SLIP) ? now.band.slippingBy(v, now.cracked) : refuse(BAD);
    }

    public int crew(int n) {
        return upTo(n, Band.MOST) ? now.band.bestCrew(n, now.cracked) : refuse(BAD);
    }

    public int putBack(int thing) {
        return now.isThing(thing) ? now.stepsToPutBack(thing) : refuse(BAD);
    }

    public int parishes(int n, int what) {
        if (!upTo(n, Choice.MOST_TURNS) || !upTo(what, 1)) {
            return refuse(BAD);
        }
        return what == 0 ? Choice.valuePlayed(now, n) : Choice.firstPlayed(now, n);
    }

    public int deaf(int things, int what) {
        if (!now.areThings(things) || !upTo(what, 1)) {
            return refuse(BAD);
        }
        return what == 0 ? Choice.countRemembered(now, things) : Choice.leastRemembered(now, things);
    }

    public int kinds(int ringer, int v) {
        if (!now.band.isRinger(ringer) || !upTo(v, Band.MOST_SLIP)) {
            return refuse(BAD);
        }
        return now.band.kindsSlippingBy(ringer, v, now.cracked);
    }

    public int worst(int what) {
        if (!upTo(what, 1)) {
            return refuse(BAD);
        }
        int thing = Choice.worstBack(now, now.been);
        return what == 0 || thing == NONE ? thing : now.valueIf(now.been & ~(1 << thing));
    }

    public int best(int what) {
        if (!upTo(what, 1)) {
            return refuse(BAD);
        }
        int thing = Choice.bestForwards(now);
        return what == 0 || thing == NONE ? thing : now.valueIf(now.been | 1 << thing);
    }

    public int depth(int thing) {
        return now.isThing(thing) ? now.depthOf(thing) : refuse(BAD);
    }

    public int ends(int what) {
        if (!upTo(what, 1)) {
            return refuse(BAD);
        }
        return what == 0 ? now.highest() : now.lowest();
    }

    public int common(int thing, int other) {
        if (!now.isThing(thing) || !now.isThing(other)) {
            return refuse(BAD);
        }
        return now.downOf(thing) & now.downOf(other);
    }

    public int weatherFor(int what) {
        if (!upTo(what, 1)) {
            return refuse(BAD);
        }
        int weather = now.fullestWeather();
        return what == 0 ? weather : now.countBackIn(weather);
    }

    public int bell(int what) {
        if (!upTo(what, 1)) {
            return refuse(BAD);
        }
        int bell = now.fullestBell();
        return what == 0 ? bell : now.countOpenOn(bell);
    }

    public int pair(int what) {
        if (!upTo(what, 1)) {
            return refuse(BAD);
        }
        int pair = Choice.worstPair(now);
        return what == 0 || pair == NONE ? pair : now.valueIf(now.been & ~(1 << pair / 10 | 1 << pair % 10));
    }

    public int under(int value) {
        return upTo(value, 999) ? Choice.leastUnder(now, value) : refuse(BAD);
    }

    public int pillar() {
        return Choice.worstBack(now, now.standing(now.been));
    }

    public int ways(int things) {
        return now.areThings(things) ? Choice.countLeaving(now, things) : refuse(BAD);
    }

    public int oldest(int what) {
        return upTo(what, 1) ? now.oldestBeen(what == 0) : refuse(BAD);
    }

    public int free(int thing) {
        if (!now.isThing(thing)) {
            return refuse(BAD);
        }
        int ahead = now.hungOf(thing);
        now.freeThing(thing);
        return ahead;
    }

    public int once(int ringers) {
        if (!now.band.areRingers(ringers)) {
            return refuse(BAD);
        }
        return now.band.onceOf(ringers, now.cracked);
    }

    public int soon(int thing) {
        return now.isThing(thing) ? now.daysUntil(1 << thing) : refuse(BAD);
    }

    public int inWeather(int weather) {
        return upTo(weather, Tower.LAST_WEATHER) ? now.rungInWeather(weather) : refuse(BAD);
    }

    public int chain(int thing) {
        return now.isThing(thing) ? now.chainFrom(thing) : refuse(BAD);
    }

    public int alone(int thing) {
        if (!now.isThing(thing)) {
            return refuse(BAD);
        }
        return (now.offBy(thing) & ~(1 << thing)) == 0 ? 1 : 0;
    }

    public int ofKind(int kind) {
        return upTo(kind, Band.DEAF) ? now.band.countOfKind(kind) : refuse(BAD);
    }

    // ---- told peals

    public int judge(int s, int n) {
        int refusal = refusalOfPeal(s, n);
        return refusal != 0 ? refuse(refusal) : wrongPlace(s, n);
    }

    public int behind(int s, int n, int what) {
        int refusal = upTo(what, 1) ? refusalOfPeal(s, n) : BAD;
        if (refusal != 0) {
            return refuse(refusal);
        }
        if (wrongPlace(s, n) != NONE) {
            return refuse(STUCK);
        }
        return what == 0 ? draft.standing(draft.been) : draft.valueNow();
    }

    // ---- in truth

    public int ring(int thing) {
        if (!now.isThing(thing)) {
            return refuse(BAD);
        }
        if (now.mayBeRung(thing) == 0) {
            return refuse(STUCK);
        }
        now.ringThing(thing);
        return now.valueNow();
    }

    public int day() {
        now.passDay();
        return now.weather;
    }

    public int years(int n) {
        if (n < 1 || n > 60) {
            return refuse(BAD);
        }
        if (now.things == 0) {
            return refuse(STUCK);
        }
        int rung = 0;
        for (int i = 0; i < n; i++) {
            rung += now.passYearByDraws();
        }
        return rung;
    }

    public int seed(int v) {
        int ahead = now.seed;
        now.seed = v;
        return ahead;
    }

    public int image() {
        kept.takeFrom(now);
        somethingKept = true;
        return 1;
    }

    public int back() {
        if (!somethingKept) {
            return refuse(STUCK);
        }
        now.takeFrom(kept);
        shelves.forgetRingersFrom(now.band.count);
        return 1;
    }

    public int status(int what) {
        switch (what) {
            case 0: return now.things;
            case 1: return now.band.count;
            case 2: return now.weather;
            case 3: return now.year;
            case 4: return now.cracked;
            case 5: return now.valueNow();
            case 6: return tape.size;
            case 7: return now.seed;
            case 8: return shelves.countHeld();
            default: return what >= 12 && what <= 16 ? at(refusals, what - 12) : NONE;
        }
    }

    // ---- what several calls share

    private int refuse(int refusal) {
        int place = BAD - refusal;
        put(refusals, place, at(refusals, place) + 1);
        return refusal;
    }

    /** What refuses SHELF s where a ROW is wanted; 0: it holds one. */
    private int refusalOfRow(int s) {
        if (!Shelves.isShelf(s)) {
            return BAD;
        }
        if (shelves.hasRinger(s)) {
            return OTHER;
        }
        return shelves.hasRow(s) ? 0 : NOTHING;
    }

    private int refusalOfPeal(int s, int n) {
        if (!Shelves.isShelf(s) || !upTo(n, Shelves.MOST_ELEMENTS)) {
            return BAD;
        }
        int refusal = refusalOfRow(s);
        if (refusal != 0) {
            return refusal;
        }
        return n > shelves.sizeOf(s) ? BAD : 0;
    }

    /** The place in the told PEAL that is WRONG; the draft is left as it is behind what could be rung. */
    private int wrongPlace(int s, int n) {
        draft.takeFrom(now);
        for (int i = 0; i < n; i++) {
            long told = shelves.elementAt(s, i);
            if (told < 0 || told >= draft.things || draft.mayBeRung((int) told) == 0) {
                return i;
            }
            draft.ringThing((int) told);
        }
        return NONE;
    }

    private static boolean upTo(int number, int most) {
        return number >= 0 && number <= most;
    }

    private static int bitOf(int bits, int place) {
        return bits >> place & 1;
    }

    private static boolean isIn(int bits, int place) {
        return (bits >> place & 1) == 1;
    }

    private static int at(int[] numbers, int place) {
        return place >= 0 && place < numbers.length ? numbers[place] : 0;
    }

    private static void put(int[] numbers, int place, int number) {
        if (place >= 0 && place < numbers.length) {
            numbers[place] = number;
        }
    }

    /** THINGS, RINGERS, and all that an image keeps. */
    private static final class Tower {
        static final int MOST = 10;
        static final int LAST_WEATHER = 3;
        static final int LAST_BELL = 7;
        static final int LAST_YEAR = 999;
        static final int LAST_AGE = 99;
        static final int WORTH = 0;
        static final int RUNG_IN = 1;
        static final int AGE = 2;
        static final int BEEN = 3;
        static final int HUNG_ON = 4;
        static final int STANDS = 5;
        static final int OPEN = 6;
        static final int MAY = 7;

        int things = 0;
        final int[] worth = new int[MOST];
        final int[] rungIn = new int[MOST];
        final int[] age = new int[MOST];
        /** What each hangs on, as bits: lesser numbers alone, so one pass upward sees all below first. */
        final int[] hung = new int[MOST];
        int been = 0;
        int weather = 0;
        int year = 0;
        int cracked = 0;
        int seed = 1;
        final Band band = new Band();
        /** Room for the depths that a call measures; no part of what is kept. */
        private final int[] depths = new int[MOST];

        void takeFrom(Tower other) {
            things = other.things;
            System.arraycopy(other.worth, 0, worth, 0, MOST);
            System.arraycopy(other.rungIn, 0, rungIn, 0, MOST);
            System.arraycopy(other.age, 0, age, 0, MOST);
            System.arraycopy(other.hung, 0, hung, 0, MOST);
            been = other.been;
            weather = other.weather;
            year = other.year;
            cracked = other.cracked;
            seed = other.seed;
            band.takeFrom(other.band);
        }

        boolean isThing(int thing) {
            return thing >= 0 && thing < things;
        }

        int everyThing() {
            return (1 << things) - 1;
        }

        boolean areThings(int bits) {
            return (bits & ~everyThing()) == 0;
        }

        boolean hasRoom() {
            return things < MOST;
        }

        int addThing(int itsWorth, int itsWeather) {
            int thing = things;
            put(worth, thing, itsWorth);
            put(rungIn, thing, itsWeather);
            put(age, thing, 0);
            put(hung, thing, 0);
            been |= 1 << thing;
            things = thing + 1;
            return thing;
        }

        void hangThing(int thing, int lesser, boolean on) {
            int bit = 1 << lesser;
            int hangsOn = at(hung, thing);
            put(hung, thing, on ? hangsOn | bit : hangsOn & ~bit);
        }

        void freeThing(int thing) {
            put(hung, thing, 0);
        }

        int hungOf(int thing) {
            return at(hung, thing);
        }

        static int most(int what) {
            switch (what) {
                case WORTH: return 99;
                case RUNG_IN: return LAST_WEATHER;
                case AGE: return LAST_AGE;
                default: return 1;
            }
        }

        int partOf(int thing, int what) {
            switch (what) {
                case WORTH: return at(worth, thing);
                case RUNG_IN: return at(rungIn, thing);
                case AGE: return at(age, thing);
                case BEEN: return bitOf(been, thing);
                case HUNG_ON: return hungOf(thing);
                case STANDS: return bitOf(standing(been), thing);
                case OPEN: return isOpen(thing) ? 1 : 0;
                default: return mayBeRung(thing);
            }
        }

        void changePart(int thing, int what, int v) {
            switch (what) {
                case WORTH: put(worth, thing, v); break;
                case RUNG_IN: put(rungIn, thing, v); break;
                case AGE: put(age, thing, v); break;
                default: tellBeen(thing, v == 1); break;
            }
        }

        void tellBeen(int thing, boolean hasBeen) {
            been = hasBeen ? been | 1 << thing : been & ~(1 << thing);
        }

        static int mostTold(int what) {
            return what == 0 ? LAST_WEATHER : what == 1 ? LAST_YEAR : 255;
        }

        int toldOf(int what) {
            return what == 0 ? weather : what == 1 ? year : cracked;
        }

        void changeTold(int what, int v) {
            switch (what) {
                case 0: weather = v; break;
                case 1: year = v; break;
                default: cracked = v; break;
            }
        }

        // ---- ringing

        boolean isOpen(int thing) {
            return !isIn(cracked, thing % 8);
        }

        /** 1: back, 2: forwards, 0: neither. */
        int mayBeRung(int thing) {
            if (!isOpen(thing)) {
                return 0;
            }
            if (!isIn(been, thing)) {
                return 2;
            }
            return at(rungIn, thing) == weather ? 1 : 0;
        }

        int allThatMay(int way) {
            int bits = 0;
            for (int i = 0; i < things; i++) {
                if (mayBeRung(i) == way) {
                    bits |= 1 << i;
                }
            }
            return bits;
        }

        void ringThing(int thing) {
            if (isIn(been, thing)) {
                tellBeen(thing, false);
                return;
            }
            tellBeen(thing, true);
            put(rungIn, thing, weather);
            put(age, thing, Math.max(0, at(age, thing) - 1));
        }

        void passDay() {
            weather = (weather + 1) % (LAST_WEATHER + 1);
        }

        int draw(int below) {
            if (below <= 0) {
                return 0;
            }
            seed = seed * 1103515245 + 12345;
            return (seed >>> 16) % below;
        }

        /** How many were rung in that year: 0 or 1. */
        int passYearByDraws() {
            year = Math.min(LAST_YEAR, year + 1);
            for (int i = 0; i < age.length; i++) {
                if (isIn(been, i)) {
                    age[i] = Math.min(LAST_AGE, age[i] + 1);
                }
            }
            weather = draw(LAST_WEATHER + 1);
            int rung = ringByDraws();
            int drawnBell = draw(LAST_BELL + 1);
            if (draw(10) == 0) {
                cracked |= 1 << drawnBell;
            }
            return rung;
        }

        /** A ringer may slip from a THING that MAY not be rung, too, and so ring the next one. */
        private int ringByDraws() {
            int thing = draw(things);
            if (band.count > 0) {
                int ringer = draw(band.count);
                if (draw(100) < band.slipOf(ringer, cracked)) {
                    thing = beyond(thing, 1);
                }
            }
            if (mayBeRung(thing) == 0) {
                return 0;
            }
            ringThing(thing);
            return 1;
        }

        // ---- what stands

        /** What would STAND, if just these had BEEN. */
        int standing(int hadBeen) {
            int stand = 0;
            for (int i = 0; i < hung.length && hadBeen >> i != 0; i++) {
                if (isIn(hadBeen, i) && (hung[i] & ~stand) == 0) {
                    stand |= 1 << i;
                }
            }
            return stand;
        }

        /** VALUE, if just these had BEEN. */
        int valueIf(int hadBeen) {
            int stand = standing(hadBeen);
            int value = 0;
            for (int i = 0; i < worth.length && stand >> i != 0; i++) {
                if (isIn(stand, i)) {
                    value += worth[i];
                }
            }
            return value;
        }

        int valueNow() {
            return valueIf(been);
        }

        int offBy(int thing) {
            return standing(been) & ~standing(been & ~(1 << thing));
        }

        /** The THING of number k more, modulo how many there are. */
        int beyond(int thing, int k) {
            return things > 0 ? (thing + k) % things : 0;
        }

        int downOf(int thing) {
            int below = hungOf(thing);
            for (int i = hung.length - 1; i >= 0; i--) {
                if (isIn(below, i)) {
                    below |= hung[i];
                }
            }
            return below;
        }

        int upOf(int thing) {
            int above = 0;
            for (int i = 0; i < things; i++) {
                if (isIn(downOf(i), thing)) {
                    above |= 1 << i;
                }
            }
            return above;
        }

        int daysUntil(int told) {
            int days = 0;
            for (int i = 0; i < things; i++) {
                if (isIn(told, i)) {
                    if (!isIn(been, i) || !isOpen(i)) {
                        return NONE;
                    }
                    days = Math.max(days, Math.floorMod(at(rungIn, i) - weather, LAST_WEATHER + 1) + 1);
                }
            }
            return days;
        }

        int stepsToPutBack(int thing) {
            int missing = (downOf(thing) | 1 << thing) & ~been;
            for (int i = 0; i < things; i++) {
                if (isIn(missing, i) && !isOpen(i)) {
                    return NONE;
                }
            }
            return Integer.bitCount(missing);
        }

        // ---- hanging

        int highest() {
            int hungUpon = 0;
            for (int i = 0; i < things; i++) {
                hungUpon |= hungOf(i);
            }
            return everyThing() & ~hungUpon;
        }

        int lowest() {
            int bits = 0;
            for (int i = 0; i < things; i++) {
                if (hungOf(i) == 0) {
                    bits |= 1 << i;
                }
            }
            return bits;
        }

        private void measureDepths() {
            for (int i = 0; i < depths.length; i++) {
                int deepest = 0;
                for (int j = 0; j < i; j++) {
                    if (isIn(hungOf(i), j)) {
                        deepest = Math.max(deepest, depths[j] + 1);
                    }
                }
                depths[i] = deepest;
            }
        }

        int depthOf(int thing) {
            measureDepths();
            return at(depths, thing);
        }

        int chainFrom(int thing) {
            measureDepths();
            int bits = 1 << thing;
            int above = thing;
            for (int step = at(depths, thing) - 1; step >= 0; step--) {
                above = leastHungAt(above, step);
                bits |= 1 << above;
            }
            return bits;
        }

        private int leastHungAt(int thing, int depth) {
            for (int i = 0; i < thing; i++) {
                if (isIn(hungOf(thing), i) && at(depths, i) == depth) {
                    return i;
                }
            }
            return thing;
        }

        // ---- weathers, bells, ages

        int rungInWeather(int told) {
            int bits = 0;
            for (int i = 0; i < things; i++) {
                if (at(rungIn, i) == told) {
                    bits |= 1 << i;
                }
            }
            return bits;
        }

        int countBackIn(int told) {
            int count = 0;
            for (int i = 0; i < things; i++) {
                if (isIn(been, i) && isOpen(i) && at(rungIn, i) == told) {
                    count++;
                }
            }
            return count;
        }

        int fullestWeather() {
            int fullest = 0;
            for (int i = 1; i <= LAST_WEATHER; i++) {
                if (countBackIn(i) > countBackIn(fullest)) {
                    fullest = i;
                }
            }
            return fullest;
        }

        int countOpenOn(int told) {
            int count = 0;
            for (int i = 0; i < things; i++) {
                if (i % 8 == told && isOpen(i)) {
                    count++;
                }
            }
            return count;
        }

        int fullestBell() {
            int fullest = 0;
            for (int i = 1; i <= LAST_BELL; i++) {
                if (countOpenOn(i) > countOpenOn(fullest)) {
                    fullest = i;
                }
            }
            return fullest;
        }

        int oldestBeen(boolean greatest) {
            int found = NONE;
            for (int i = 0; i < things; i++) {
                if (isIn(been, i)) {
                    int more = at(age, i) - at(age, found);
                    if (found == NONE || (greatest ? more > 0 : more < 0)) {
                        found = i;
                    }
                }
            }
            return found;
        }
    }

    /** The RINGERS. Whose bell is CRACKED belongs to the tower, so it comes with each question. */
    private static final class Band {
        static final int MOST = 6;
        static final int MOST_A = 9;
        static final int MOST_SLIP = 99;
        static final int MILLION = 1000000;
        static final int RINGER = 0;
        static final int LEARNER = 1;
        static final int OLD = 2;
        static final int CURATE = 3;
        static final int MASTER = 4;
        static final int DEAF = 5;

        int count = 0;
        private final int[] kind = new int[MOST];
        private final int[] a = new int[MOST];
        private final int[] bells = new int[MOST];

        void takeFrom(Band other) {
            count = other.count;
            System.arraycopy(other.kind, 0, kind, 0, MOST);
            System.arraycopy(other.a, 0, a, 0, MOST);
            System.arraycopy(other.bells, 0, bells, 0, MOST);
        }

        boolean isRinger(int ringer) {
            return ringer >= 0 && ringer < count;
        }

        int everyRinger() {
            return (1 << count) - 1;
        }

        boolean areRingers(int bits) {
            return (bits & ~everyRinger()) == 0;
        }

        boolean hasRoom() {
            return count < MOST;
        }

        int addRinger(int itsKind, int itsA, int itsBell) {
            int ringer = count;
            put(kind, ringer, itsKind);
            put(a, ringer, itsA);
            put(bells, ringer, itsBell);
            count = ringer + 1;
            return ringer;
        }

        int kindOf(int ringer) {
            return at(kind, ringer);
        }

        int aOf(int ringer) {
            return at(a, ringer);
        }

        int bellOf(int ringer) {
            return at(bells, ringer);
        }

        private static int kindAbove(int kind) {
            switch (kind) {
                case CURATE: return LEARNER;
                case MASTER: return OLD;
                case RINGER: return NONE;
                default: return RINGER;
            }
        }

        /** Whether a kind is the other one, or under it. */
        static boolean isUnder(int kind, int other) {
            int above = kind;
            for (int i = 0; i < MOST && above != NONE; i++) {
                if (above == other) {
                    return true;
                }
                above = kindAbove(above);
            }
            return false;
        }

        // ---- slips

        private static int slipWithin(int slip) {
            return Math.max(0, Math.min(MOST_SLIP, slip));
        }

        private int slipAs(int asKind, int ringer, int cracked) {
            int plain = slipWithin(10 + aOf(ringer));
            int learner = slipWithin(3 * plain);
            int old = slipWithin(plain - aOf(ringer));
            switch (asKind) {
                case LEARNER: return learner;
                case CURATE: return slipWithin((learner + 1) / 2);
                case OLD: return old;
                case MASTER: return slipWithin(old - 5);
                case DEAF: return isIn(cracked, bellOf(ringer)) ? 50 : plain;
                default: return plain;
            }
        }

        int slipOf(int ringer, int cracked) {
            return slipAs(kindOf(ringer), ringer, cracked);
        }

        int wellOf(int ringers, int cracked) {
            int well = MILLION;
            for (int i = 0; i < count; i++) {
                if (isIn(ringers, i)) {
                    well = well * (100 - slipOf(i, cracked)) / 100;
                }
            }
            return well;
        }

        int onceOf(int ringers, int cracked) {
            int once = 0;
            for (int i = 0; i < count; i++) {
                if (isIn(ringers, i)) {
                    once += slipOf(i, cracked) * wellOf(ringers & ~(1 << i), cracked) / 100;
                }
            }
            return once;
        }

        int slippingBy(int least, int cracked) {
            int bits = 0;
            for (int i = 0; i < count; i++) {
                if (slipOf(i, cracked) >= least) {
                    bits |= 1 << i;
                }
            }
            return bits;
        }

        int kindsSlippingBy(int ringer, int slip, int cracked) {
            int bits = 0;
            for (int i = RINGER; i <= DEAF; i++) {
                if (slipAs(i, ringer, cracked) == slip) {
                    bits |= 1 << i;
                }
            }
            return bits;
        }

        int bestCrew(int n, int cracked) {
            int crew = NONE;
            int best = NONE;
            for (int bits = 0; bits <= everyRinger(); bits++) {
                if (Integer.bitCount(bits) == n) {
                    int well = wellOf(bits, cracked);
                    if (well > best) {
                        crew = bits;
                        best = well;
                    }
                }
            }
            return crew;
        }

        int countOfKind(int told) {
            int found = 0;
            for (int i = 0; i < count; i++) {
                if (kindOf(i) == told) {
                    found++;
                }
            }
            return found;
        }
    }

    /** Which THINGS to ring. Sets are gone through upward, so of several as good the least bits stay. */
    private static final class Choice {
        static final int MOST_TURNS = 5;
        /** More than all WORTH together. */
        private static final int BEYOND_VALUE = 1000;

        private static boolean isFewer(int bits, int found) {
            return found == NONE || Integer.bitCount(bits) < Integer.bitCount(found);
        }

        static int leastLeaving(Tower tower, int told) {
            int found = NONE;
            for (int bits = 0; bits <= tower.been; bits++) {
                if ((bits & ~tower.been) == 0 && isFewer(bits, found) && tower.standing(tower.been & ~bits) == told) {
                    found = bits;
                }
            }
            return found;
        }

        static int leastUnsaying(Tower tower, int told) {
            int found = NONE;
            int mostOthers = NONE;
            for (int bits = 0; bits <= tower.been; bits++) {
                if ((bits & ~tower.been) != 0) {
                    continue;
                }
                int stand = tower.standing(tower.been & ~bits);
                int others = Integer.bitCount(stand);
                boolean better = others > mostOthers || others == mostOthers && isFewer(bits, found);
                if ((stand & told) == 0 && better) {
                    found = bits;
                    mostOthers = others;
                }
            }
            return found;
        }

        static int leastUnder(Tower tower, int value) {
            int found = NONE;
            for (int bits = 0; bits <= tower.been; bits++) {
                if ((bits & ~tower.been) == 0 && isFewer(bits, found) && tower.valueIf(tower.been & ~bits) <= value) {
                    found = bits;
                }
            }
            return found;
        }

        static int countLeaving(Tower tower, int told) {
            int count = 0;
            for (int bits = 0; bits <= tower.everyThing(); bits++) {
                if (tower.standing(bits) == told) {
                    count++;
                }
            }
            return count;
        }

        private static boolean isRemembered(Tower tower, int told, int bits) {
            return (bits & tower.been) == 0
                && tower.standing(tower.been | bits) == (tower.standing(tower.been) | told);
        }

        static int countRemembered(Tower tower, int told) {
            int count = 0;
            for (int bits = 0; bits <= tower.everyThing(); bits++) {
                if (isRemembered(tower, told, bits)) {
                    count++;
                }
            }
            return count;
        }

        static int leastRemembered(Tower tower, int told) {
            for (int bits = 0; bits <= tower.everyThing(); bits++) {
                if (isRemembered(tower, told, bits)) {
                    return bits;
                }
            }
            return NONE;
        }

        /** Of some that have BEEN the first by whose being rung back VALUE is least. */
        static int worstBack(Tower tower, int some) {
            int found = NONE;
            int least = 0;
            for (int i = 0; i < tower.things; i++) {
                if (isIn(some, i)) {
                    int value = tower.valueIf(tower.been & ~(1 << i));
                    if (found == NONE || value < least) {
                        found = i;
                        least = value;
                    }
                }
            }
            return found;
        }

        static int bestForwards(Tower tower) {
            int found = NONE;
            int most = NONE;
            for (int i = 0; i < tower.things; i++) {
                if (!isIn(tower.been, i)) {
                    int value = tower.valueIf(tower.been | 1 << i);
                    if (value > most) {
                        found = i;
                        most = value;
                    }
                }
            }
            return found;
        }

        /** 10 times the lesser and the other. */
        static int worstPair(Tower tower) {
            int found = NONE;
            int least = 0;
            for (int j = 0; j < tower.things; j++) {
                for (int i = j + 1; i < tower.things; i++) {
                    int both = 1 << i | 1 << j;
                    if ((both & ~tower.been) == 0) {
                        int value = tower.valueIf(tower.been & ~both);
                        if (found == NONE || value < least) {
                            found = 10 * j + i;
                            least = value;
                        }
                    }
                }
            }
            return found;
        }

        /**
         * VALUE at the end of so many turns more, both parishes choosing best, or the bound it doesn't come inside:
         * a way that can matter no more is left, since all ways played to their ends take long.
         */
        private static int playedOut(Tower tower, int been, int turns, boolean back, int low, int high) {
            if (turns <= 0) {
                return tower.valueIf(been);
            }
            int choices = back ? been : tower.everyThing() & ~been;
            if (choices == 0) {
                return playedOut(tower, been, turns - 1, !back, low, high);
            }
            int least = low;
            int most = high;
            for (int i = 0; i < tower.things && least < most; i++) {
                if (isIn(choices, i)) {
                    int value = playedOut(tower, been ^ 1 << i, turns - 1, !back, least, most);
                    if (back) {
                        most = Math.min(most, value);
                    } else {
                        least = Math.max(least, value);
                    }
                }
            }
            return back ? most : least;
        }

        static int valuePlayed(Tower tower, int turns) {
            return playedOut(tower, tower.been, turns, true, NONE, BEYOND_VALUE);
        }

        /** What the one that rings back rings first; NONE: no turn, or nothing to ring. */
        static int firstPlayed(Tower tower, int turns) {
            int found = NONE;
            int least = BEYOND_VALUE;
            for (int i = 0; i < tower.things && turns > 0; i++) {
                if (isIn(tower.been, i)) {
                    int value = playedOut(tower, tower.been ^ 1 << i, turns - 1, false, NONE, least);
                    if (value < least) {
                        found = i;
                        least = value;
                    }
                }
            }
            return found;
        }
    }

    /** SHELVES: all their elements lie in one row, MOST_ELEMENTS for each shelf. */
    private static final class Shelves {
        static final int COUNT = 8;
        static final int MOST_ELEMENTS = 40;
        static final int BYTES = 0;
        static final int SHORTS = 1;
        static final int INTS = 2;
        static final int LONGS = 3;
        static final int BOOLEANS = 4;
        private static final int FIRST_RINGER = 10;

        /** NONE, a SORT, or FIRST_RINGER and the number of a RINGER. */
        private final int[] held = new int[COUNT];
        private final int[] sizes = new int[COUNT];
        private final long[] elements = new long[COUNT * MOST_ELEMENTS];

        Shelves() {
            for (int i = 0; i < held.length; i++) {
                held[i] = NONE;
            }
        }

        static boolean isShelf(int s) {
            return s >= 0 && s < COUNT;
        }

        int heldIn(int s) {
            return isShelf(s) ? at(held, s) : NONE;
        }

        boolean hasRow(int s) {
            return heldIn(s) >= BYTES && heldIn(s) <= BOOLEANS;
        }

        boolean hasRinger(int s) {
            return heldIn(s) >= FIRST_RINGER;
        }

        int ringerIn(int s) {
            return hasRinger(s) ? heldIn(s) - FIRST_RINGER : NONE;
        }

        int sizeOf(int s) {
            return hasRow(s) ? at(sizes, s) : 0;
        }

        boolean hasPart(int s, int from, int n) {
            return hasRow(s) && from >= 0 && n >= 0 && n <= sizeOf(s) && from <= sizeOf(s) - n;
        }

        void putRow(int s, int sort, int n) {
            put(held, s, sort);
            put(sizes, s, n);
            for (int i = 0; i < MOST_ELEMENTS; i++) {
                putLong(s, i, 0);
            }
        }

        void putRinger(int s, int ringer) {
            put(held, s, ringer == NONE ? NONE : FIRST_RINGER + ringer);
        }

        void putElement(int s, int i, long v) {
            putLong(s, i, asSort(heldIn(s), v));
        }

        private void putLong(int s, int i, long v) {
            int place = s * MOST_ELEMENTS + i;
            if (place >= 0 && place < elements.length) {
                elements[place] = v;
            }
        }

        private static long asSort(int sort, long v) {
            switch (sort) {
                case BYTES: return (byte) v;
                case SHORTS: return (short) v;
                case INTS: return (int) v;
                case BOOLEANS: return v != 0 ? 1 : 0;
                default: return v;
            }
        }

        long elementAt(int s, int i) {
            if (i < 0 || i >= sizeOf(s)) {
                return 0;
            }
            int place = s * MOST_ELEMENTS + i;
            return place >= 0 && place < elements.length ? elements[place] : 0;
        }

        void move(int p, int q, int i, int j, int n) {
            if (hasPart(p, i, n) && hasPart(q, j, n)) {
                System.arraycopy(elements, p * MOST_ELEMENTS + i, elements, q * MOST_ELEMENTS + j, n);
            }
        }

        void forgetRingersFrom(int first) {
            for (int s = 0; s < COUNT; s++) {
                if (ringerIn(s) >= first) {
                    putRinger(s, NONE);
                }
            }
        }

        int countHeld() {
            int count = 0;
            for (int s = 0; s < COUNT; s++) {
                if (heldIn(s) != NONE) {
                    count++;
                }
            }
            return count;
        }
    }

    /** THE TAPE. */
    private static final class Tape {
        static final int MOST = 250;

        int size = 0;
        private final int[] letters = new int[MOST];

        boolean hasRoom() {
            return size < MOST;
        }

        int add(int letter) {
            put(letters, size, letter);
            size++;
            return size;
        }

        int empty() {
            int ahead = size;
            size = 0;
            return ahead;
        }

        /** NONE: there is none at that place. */
        int letterAt(int place) {
            return place < size ? at(letters, place) : NONE;
        }
    }

    /** Reads a TOWER from THE TAPE, token by token. */
    private static final class Reader {
        private static final int END = 0;
        private static final int WORD = 1;
        private static final int NUMBER = 2;
        private static final int SIGN = 3;
        private static final int STRANGE = 4;

        private static final int THING = 0;
        private static final int HANGS = 1;
        private static final int FREE = 2;
        private static final int UNSAID = 3;
        private static final int SAID = 4;
        private static final int RINGER = 5;
        private static final int WEATHER = 6;
        private static final int CRACK = 7;
        private static final int MEND = 8;
        private static final int YEAR = 9;

        private static final int MOST_DIGITS = 3;
        /** What stands for a number of too many digits: more than any statement takes. */
        private static final int TOO_MUCH = 1000;

        /** The first place that can't stand; NONE: the last reading went well. */
        int fault = NONE;
        /** The token that is looked at: its kind, its first place, the place behind it, its number. */
        private int token = END;
        private int start = 0;
        private int next = 0;
        private int number = 0;
        private final int[] numbers = new int[MOST_DIGITS];

        /** How many STATEMENTS came to the tower, which is spoilt if there is a fault. */
        int readTower(Tape tape, Tower tower) {
            fault = NONE;
            next = 0;
            advance(tape);
            for (int read = 1; read <= Tape.MOST; read++) {
                if (!readStatement(tape, tower)) {
                    fault = start;
                    return 0;
                }
                if (token == END) {
                    return read;
                }
                if (token != SIGN) {
                    fault = start;
                    return 0;
                }
                advance(tape);
            }
            fault = start;
            return 0;
        }

        private boolean readStatement(Tape tape, Tower tower) {
            int word = token == WORD ? wordHere(tape) : NONE;
            if (word == NONE || hasNoRoom(tower, word)) {
                return false;
            }
            advance(tape);
            for (int i = 0; i < countOf(word); i++) {
                if (token != NUMBER || number > mostOf(tower, word, i)) {
                    return false;
                }
                put(numbers, i, number);
                advance(tape);
            }
            carryOut(tower, word);
            return true;
        }

        private static boolean hasNoRoom(Tower tower, int word) {
            return word == THING && !tower.hasRoom() || word == RINGER && !tower.band.hasRoom();
        }

        private static int countOf(int word) {
            switch (word) {
                case RINGER: return 3;
                case THING:
                case HANGS: return 2;
                default: return 1;
            }
        }

        /** The greatest number that may stand at a place of a statement; less than 0: none may. */
        private int mostOf(Tower tower, int word, int place) {
            switch (word) {
                case THING: return place == 0 ? Tower.most(Tower.WORTH) : Tower.LAST_WEATHER;
                case HANGS: return place == 0 ? tower.things - 1 : at(numbers, 0) - 1;
                case RINGER: return place == 0 ? Band.DEAF : place == 1 ? Band.MOST_A : Tower.LAST_BELL;
                case WEATHER: return Tower.LAST_WEATHER;
                case YEAR: return Tower.LAST_YEAR;
                case CRACK:
                case MEND: return Tower.LAST_BELL;
                default: return tower.things - 1;
            }
        }

        private void carryOut(Tower tower, int word) {
            int first = at(numbers, 0);
            int second = at(numbers, 1);
            switch (word) {
                case THING: tower.addThing(first, second); break;
                case HANGS: tower.hangThing(first, second, true); break;
                case FREE: tower.freeThing(first); break;
                case UNSAID: tower.tellBeen(first, false); break;
                case SAID: tower.tellBeen(first, true); break;
                case RINGER: tower.band.addRinger(first, second, at(numbers, 2)); break;
                case WEATHER: tower.weather = first; break;
                case CRACK: tower.cracked |= 1 << first; break;
                case MEND: tower.cracked &= ~(1 << first); break;
                default: tower.year = first; break;
            }
        }

        // ---- tokens

        private void advance(Tape tape) {
            start = next;
            for (int i = 0; i < Tape.MOST && tape.letterAt(start) == ' '; i++) {
                start++;
            }
            int first = tape.letterAt(start);
            next = start + 1;
            if (first == NONE) {
                token = END;
                next = start;
            } else if (isSmall(first)) {
                token = WORD;
                for (int i = 0; i < Tape.MOST && isSmall(tape.letterAt(next)); i++) {
                    next++;
                }
            } else if (isDigit(first)) {
                token = NUMBER;
                for (int i = 0; i < Tape.MOST && isDigit(tape.letterAt(next)); i++) {
                    next++;
                }
                number = numberHere(tape);
            } else {
                token = first == ';' ? SIGN : STRANGE;
            }
        }

        private static boolean isSmall(int letter) {
            return letter >= 'a' && letter <= 'z';
        }

        private static boolean isDigit(int letter) {
            return letter >= '0' && letter <= '9';
        }

        private int numberHere(Tape tape) {
            if (next - start > MOST_DIGITS) {
                return TOO_MUCH;
            }
            int read = 0;
            for (int i = start; i < next; i++) {
                read = 10 * read + tape.letterAt(i) - '0';
            }
            return read;
        }

        private int wordHere(Tape tape) {
            for (int word = THING; word <= YEAR; word++) {
                if (isHere(tape, lettersOf(word))) {
                    return word;
                }
            }
            return NONE;
        }

        private boolean isHere(Tape tape, String word) {
            if (word.length() != next - start) {
                return false;
            }
            for (int i = 0; i < word.length(); i++) {
                if (word.charAt(i) != tape.letterAt(start + i)) {
                    return false;
                }
            }
            return true;
        }

        private static String lettersOf(int word) {
            switch (word) {
                case THING: return "thing";
                case HANGS: return "hangs";
                case FREE: return "free";
                case UNSAID: return "unsaid";
                case SAID: return "said";
                case RINGER: return "ringer";
                case WEATHER: return "weather";
                case CRACK: return "crack";
                case MEND: return "mend";
                default: return "year";
            }
        }
    }
}
