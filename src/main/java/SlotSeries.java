/**
 * The slots of a coordinated airport: hours with limits, carriers, series of
 * slots week by week, asks that wait for a place, and the acts on them, of
 * which the latest ten can be taken back. Sets of weeks, hours and series are
 * kept and answered as the bits of an int.
 */
public final class SlotSeries {
    public static final int NONE = -1;

    private static final int NO_SUCH = -2;
    private static final int FAULTY = -4;
    private static final int BARRED = -5;
    private static final int REFUSED = -6;

    private static final int MIN_WEEKS = 5;
    private static final int MAX_WEEKS = 30;
    private static final int MIN_SPAN = 5;
    private static final int DAYS = 7;
    private static final int HOURS = 24;
    private static final int MAX_CARRIERS = 8;
    private static final int MAX_SERIES = 24;
    private static final int MAX_ASKS = 24;
    private static final int MAX_LIMIT = 9;
    private static final int USUAL_LIMIT = 4;
    private static final int MAX_BY = 9;
    private static final int NAME_LETTERS = 6;
    private static final int NOTICE = 4;
    private static final int ENTRANT_BELOW = 2;
    private static final int ACTS_KEPT = 10;
    private static final int FED_BYTES = 20;
    private static final int TAPE_BYTES = 1200;
    // The longest TEXT that tell() can write has some 2200 bytes.
    private static final int OUT_BYTES = 2400;

    private static final int IN = 0;
    private static final int OUT = 1;

    private static final int OPEN = 0;
    private static final int FLOWN = 1;
    private static final int MISSED = 2;
    private static final int EXCUSED = 3;
    private static final int GIVEN = 4;

    // The words of a TEXT, each with a blank behind it; the numbers below count them.
    private static final String WORDS =
            "mon tue wed thu fri sat sun weeks limit carrier series ask in out new by ";
    private static final int DAY_LETTERS = 3;
    private static final int WEEKS_WORD = 7;
    private static final int LIMIT_WORD = 8;
    private static final int CARRIER_WORD = 9;
    private static final int SERIES_WORD = 10;
    private static final int ASK_WORD = 11;
    private static final int IN_WORD = 12;
    private static final int OUT_WORD = 13;
    private static final int NEW_WORD = 14;
    private static final int BY_WORD = 15;

    private final byte[] tape = new byte[TAPE_BYTES];
    private int tapeLength = 0;
    private final Season season = new Season();
    private final Names names = new Names();
    private final Season[] past = new Season[ACTS_KEPT];
    private int pastCount = 0;
    private final Reader reader = new Reader();
    private int latestFault = 0;
    private int latestPlace = NONE;
    private final Pool drawn = new Pool();
    private final Teller teller = new Teller();

    public SlotSeries() {
        for (int i = 0; i < ACTS_KEPT; i++) {
            past[i] = new Season();
        }
    }

    // The tape and the text.

    public int feed(int a, int b, int c, int d, int e) {
        if (tapeLength + FED_BYTES > TAPE_BYTES) {
            return NONE;
        }
        putOnTape(a);
        putOnTape(b);
        putOnTape(c);
        putOnTape(d);
        putOnTape(e);
        return tapeLength;
    }

    public int end(int n) {
        if (n < 0 || n > tapeLength) {
            return NONE;
        }
        tapeLength = n;
        return n;
    }

    public int text() {
        boolean good = reader.readText(tape, tapeLength);
        tapeLength = 0;
        latestFault = reader.fault;
        latestPlace = reader.faultPlace;
        if (!good) {
            return FAULTY;
        }
        season.copyFrom(reader.season);
        names.copyFrom(reader.names);
        pastCount = 0;
        return reader.lines;
    }

    public int fault(int what) {
        if (what == 0) {
            return latestFault;
        }
        return what == 1 ? latestPlace : NONE;
    }

    public int count(int what) {
        switch (what) {
            case 0: return season.length;
            case 1: return names.size;
            case 2: return season.seriesCount;
            case 3: return season.askCount;
            case 4: return season.now;
            case 5: return season.ended;
            case 6: return pastCount;
            case 7: return tapeLength;
            default: return NONE;
        }
    }

    public int letter(int carrier, int i) {
        if (!isCarrier(carrier) || !isWithin(i, 0, NAME_LETTERS - 1)) {
            return NO_SUCH;
        }
        return names.letterOf(carrier, i);
    }

    public int find() {
        int length = tapeLength;
        tapeLength = 0;
        if (!hasText() || !isWithin(length, 1, NAME_LETTERS)) {
            return NO_SUCH;
        }
        for (int i = 0; i < length; i++) {
            if (!isLetter(tape[i])) {
                return NO_SUCH;
            }
        }
        return names.carrierNamed(tape, 0, length);
    }

    // What stands: series, asks, hours.

    public int series(int s, int what) {
        if (!isSeries(s)) {
            return NO_SUCH;
        }
        Series one = season.slots[s];
        switch (what) {
            case 0: return one.carrier;
            case 1: return one.day;
            case 2: return one.hour;
            case 3: return one.way;
            case 4: return one.fresh ? 1 : 0;
            case 5: return one.all;
            default: return NO_SUCH;
        }
    }

    public int weeks(int s, int what) {
        if (!isSeries(s) || !isState(what)) {
            return NO_SUCH;
        }
        return season.slots[s].bitsThatAre(what);
    }

    public int week(int s, int w) {
        if (!isSeries(s) || !isWeek(w)) {
            return NO_SUCH;
        }
        return season.slots[s].stateOf(w);
    }

    public int asked(int a, int what) {
        if (!isAsk(a)) {
            return NO_SUCH;
        }
        Ask one = season.asks[a];
        switch (what) {
            case 0: return one.carrier;
            case 1: return one.day;
            case 2: return one.hour;
            case 3: return one.way;
            case 4: return one.from;
            case 5: return one.to;
            case 6: return one.by;
            default: return NO_SUCH;
        }
    }

    public int limitOf(int hour, int what) {
        if (!isHour(hour) || !isWithin(what, 0, 1)) {
            return NO_SUCH;
        }
        return what == 0 ? season.limitAll[hour] : season.limitIn[hour];
    }

    public int load(int w, int day, int hour, int what) {
        if (!isCell(w, day, hour) || !isWithin(what, 0, 2)) {
            return NO_SUCH;
        }
        if (what == 0) {
            return season.loadOf(w, day, hour);
        }
        int in = season.loadIn(w, day, hour);
        return what == 1 ? in : season.loadOf(w, day, hour) - in;
    }

    public int at(int w, int day, int hour, int k) {
        if (!isCell(w, day, hour) || k < 0) {
            return NO_SUCH;
        }
        int left = k;
        for (int s = 0; s < season.seriesCount; s++) {
            if (season.slots[s].fills(w, day, hour)) {
                if (left == 0) {
                    return s;
                }
                left--;
            }
        }
        return NONE;
    }

    public int room(int w, int day, int hour, int way) {
        if (!isCell(w, day, hour) || !isWay(way)) {
            return NO_SUCH;
        }
        int places = season.limitAll[hour] - season.loadOf(w, day, hour);
        if (way == IN) {
            places = Math.min(places, season.limitIn[hour] - season.loadIn(w, day, hour));
        }
        // A series that was retimed brings its past weeks along, so an hour
        // may hold more than its limit.
        return Math.max(places, 0);
    }

    // How series and carriers stand.

    public int use(int s, int what) {
        if (!isSeries(s) || !isWithin(what, 0, 1)) {
            return NO_SUCH;
        }
        return what == 0 ? season.slots[s].basis() : season.slots[s].good();
    }

    public int stands(int s) {
        if (!isSeries(s)) {
            return NO_SUCH;
        }
        Series one = season.slots[s];
        if (one.isSafe()) {
            return 1;
        }
        return one.isLost() ? 2 : 0;
    }

    public int spare(int s) {
        if (!isSeries(s)) {
            return NO_SUCH;
        }
        return season.slots[s].missesLeft();
    }

    public int of(int carrier, int day) {
        if (!isCarrier(carrier) || day != NONE && !isDay(day)) {
            return NO_SUCH;
        }
        int bits = 0;
        for (int s = 0; s < season.seriesCount; s++) {
            if (season.slots[s].isOf(carrier, day)) {
                bits |= 1 << s;
            }
        }
        return bits;
    }

    public int entrant(int carrier, int day) {
        if (!isCarrier(carrier) || !isDay(day)) {
            return NO_SUCH;
        }
        return season.seriesOf(carrier, day) < ENTRANT_BELOW ? 1 : 0;
    }

    public int sum(int carrier, int what) {
        if (!isCarrier(carrier) || !isState(what)) {
            return NO_SUCH;
        }
        int total = 0;
        for (int s = 0; s < season.seriesCount; s++) {
            if (season.slots[s].carrier == carrier) {
                total += Integer.bitCount(season.slots[s].bitsThatAre(what));
            }
        }
        return total;
    }

    public int best(int k) {
        if (!hasText() || k < 0) {
            return NO_SUCH;
        }
        for (int c = 0; c < names.size; c++) {
            int ahead = 0;
            for (int d = 0; d < names.size; d++) {
                if (d != c && usesMore(d, c)) {
                    ahead++;
                }
            }
            if (ahead == k) {
                return c;
            }
        }
        return NONE;
    }

    public int most(int day, int k) {
        if (!isDay(day) || k < 0) {
            return NO_SUCH;
        }
        for (int c = 0; c < names.size; c++) {
            int own = season.basisOf(c, day);
            int ahead = 0;
            for (int d = 0; d < names.size; d++) {
                int other = season.basisOf(d, day);
                if (other > own || other == own && d < c) {
                    ahead++;
                }
            }
            if (ahead == k) {
                return c;
            }
        }
        return NONE;
    }

    public int rate(int s) {
        if (!isSeries(s)) {
            return NO_SUCH;
        }
        int basis = season.slots[s].basis();
        return basis > 0 ? 100 * season.slots[s].good() / basis : NONE;
    }

    public int longest(int s) {
        if (!isSeries(s)) {
            return NO_SUCH;
        }
        int missed = season.slots[s].missed;
        int most = 0;
        int run = 0;
        for (int w = 0; w < season.length; w++) {
            run = hasBit(missed, w) ? run + 1 : 0;
            most = Math.max(most, run);
        }
        return most;
    }

    public int kept(int what) {
        if (!hasText() || !isWithin(what, 0, 1)) {
            return NO_SUCH;
        }
        int bits = 0;
        for (int s = 0; s < season.seriesCount; s++) {
            Series one = season.slots[s];
            if (what == 0 ? one.isSafe() : one.isLost()) {
                bits |= 1 << s;
            }
        }
        return bits;
    }

    public int common(int s, int t) {
        if (!isSeries(s) || !isSeries(t)) {
            return NO_SUCH;
        }
        Series one = season.slots[s];
        Series other = season.slots[t];
        if (one.day != other.day || one.hour != other.hour) {
            return 0;
        }
        return Integer.bitCount(one.heldBits() & other.heldBits());
    }

    public int pairs(int carrier, int day, int within) {
        if (!isCarrier(carrier) || !isDay(day) || !isWithin(within, 0, HOURS - 1)) {
            return NO_SUCH;
        }
        int total = 0;
        for (int s = 0; s < season.seriesCount; s++) {
            Series one = season.slots[s];
            if (one.isOf(carrier, day) && one.way == IN) {
                total += departuresBehind(one, within);
            }
        }
        return total;
    }

    // What fills the hours.

    public int peak(int what) {
        if (!hasText() || !isWithin(what, 0, 1)) {
            return NO_SUCH;
        }
        if (season.isOver()) {
            return NONE;
        }
        int greatest = 0;
        int place = 1000 * season.now;
        for (int w = season.now; w < season.length; w++) {
            for (int s = 0; s < season.seriesCount; s++) {
                Series one = season.slots[s];
                if (one.holds(w)) {
                    int load = season.loadOf(w, one.day, one.hour);
                    int key = 1000 * w + 100 * one.day + one.hour;
                    if (load > greatest || load == greatest && key < place) {
                        greatest = load;
                        place = key;
                    }
                }
            }
        }
        return what == 0 ? greatest : place;
    }

    public int full(int day) {
        if (!isDay(day)) {
            return NO_SUCH;
        }
        int total = 0;
        for (int hour = 0; hour < HOURS; hour++) {
            int crowded = season.weeksLoaded(day, hour, season.limitAll[hour], false, 0);
            total += Integer.bitCount(crowded & season.weeksToCome());
        }
        return total;
    }

    public int idle(int day) {
        if (!isDay(day)) {
            return NO_SUCH;
        }
        int bits = 0;
        for (int hour = 0; hour < HOURS; hour++) {
            int used = season.weeksLoaded(day, hour, 1, false, 0);
            if ((used & season.weeksToCome()) == 0) {
                bits |= 1 << hour;
            }
        }
        return bits;
    }

    public int fitting(int day, int way, int a, int b) {
        if (!isDay(day) || !isWay(way) || !isWeek(a) || !isWeek(b) || b < a) {
            return NO_SUCH;
        }
        int wanted = spanBits(a, b);
        int bits = 0;
        for (int hour = 0; hour < HOURS; hour++) {
            if (season.hasPlace(day, hour, way, wanted, 0)) {
                bits |= 1 << hour;
            }
        }
        return bits;
    }

    // What asks come to.

    public int fits(int a) {
        if (!isAsk(a)) {
            return NO_SUCH;
        }
        Ask one = season.asks[a];
        if (one.to < season.now) {
            return NONE;
        }
        return season.hasPlaceFor(one, one.hour, 0) ? 1 : 0;
    }

    public int where(int a) {
        if (!isAsk(a)) {
            return NO_SUCH;
        }
        return season.hourFor(season.asks[a]);
    }

    public int blocked(int a) {
        if (!isAsk(a)) {
            return NO_SUCH;
        }
        Ask one = season.asks[a];
        if (season.hasPlaceFor(one, one.hour, 0)) {
            return 0;
        }
        int bits = 0;
        for (int s = 0; s < season.seriesCount; s++) {
            if (season.hasPlaceFor(one, one.hour, 1 << s)) {
                bits |= 1 << s;
            }
        }
        return bits;
    }

    public int clash(int a, int b) {
        if (!isAsk(a) || !isAsk(b)) {
            return NO_SUCH;
        }
        Ask one = season.asks[a];
        Ask other = season.asks[b];
        if (one.day != other.day || one.hour != other.hour) {
            return 0;
        }
        return Integer.bitCount(one.wantedBits() & other.wantedBits());
    }

    public int first() {
        if (!hasText()) {
            return NO_SUCH;
        }
        return drawn.firstOf(season);
    }

    public int would() {
        if (!hasText()) {
            return NO_SUCH;
        }
        drawn.serve(season, NONE);
        return drawn.grants;
    }

    public int helps(int what) {
        if (!hasText() || !isWithin(what, 0, 1)) {
            return NO_SUCH;
        }
        int bestHour = 0;
        int bestGrants = -1;
        for (int hour = 0; hour < HOURS; hour++) {
            drawn.serve(season, hour);
            if (drawn.grants > bestGrants) {
                bestGrants = drawn.grants;
                bestHour = hour;
            }
        }
        return what == 0 ? bestHour : bestGrants;
    }

    public int turn(int a) {
        if (!isAsk(a)) {
            return NO_SUCH;
        }
        drawn.serve(season, NONE);
        return drawn.turnOf[a];
    }

    public int granted(int a) {
        if (!isAsk(a)) {
            return NO_SUCH;
        }
        drawn.serve(season, NONE);
        return drawn.hourOf[a];
    }

    // What series could become.

    public int movable(int s) {
        if (!isSeries(s)) {
            return NO_SUCH;
        }
        int bits = 0;
        for (int hour = 0; hour < HOURS; hour++) {
            if (canRetime(s, hour)) {
                bits |= 1 << hour;
            }
        }
        return bits;
    }

    public int partners(int s) {
        if (!isSeries(s)) {
            return NO_SUCH;
        }
        int bits = 0;
        for (int t = 0; t < season.seriesCount; t++) {
            if (whySwapFails(s, t) == 0) {
                bits |= 1 << t;
            }
        }
        return bits;
    }

    // The acts.

    public int miss(int s, int w) {
        if (!isSeries(s) || !isWeek(w)) {
            return NO_SUCH;
        }
        Series one = season.slots[s];
        if (one.stateOf(w) != OPEN || w < season.now) {
            return REFUSED;
        }
        remember();
        one.missed |= 1 << w;
        return one.missesLeft();
    }

    public int excuse(int s, int w) {
        if (!isSeries(s) || !isWeek(w)) {
            return NO_SUCH;
        }
        Series one = season.slots[s];
        int state = one.stateOf(w);
        if (state != MISSED && state != OPEN) {
            return REFUSED;
        }
        remember();
        one.missed &= ~(1 << w);
        one.excused |= 1 << w;
        return one.good();
    }

    public int fly(int s, int w) {
        if (!isSeries(s) || !isWeek(w)) {
            return NO_SUCH;
        }
        Series one = season.slots[s];
        int state = one.stateOf(w);
        if (state != MISSED && state != EXCUSED || w < season.now) {
            return REFUSED;
        }
        remember();
        one.missed &= ~(1 << w);
        one.excused &= ~(1 << w);
        return state;
    }

    public int back(int s, int w) {
        if (!isSeries(s) || !isWeek(w)) {
            return NO_SUCH;
        }
        if (w < season.now + NOTICE) {
            return REFUSED;
        }
        Series one = season.slots[s];
        int given = one.openBits() & bitsFrom(w);
        if (given != 0) {
            remember();
            one.given |= given;
        }
        return Integer.bitCount(given);
    }

    public int gives(int carrier, int day) {
        if (!isCarrier(carrier) || !isDay(day)) {
            return NO_SUCH;
        }
        int late = bitsFrom(season.now + NOTICE);
        int total = 0;
        for (int s = 0; s < season.seriesCount; s++) {
            Series one = season.slots[s];
            int given = one.isOf(carrier, day) ? one.openBits() & late : 0;
            if (given != 0) {
                if (total == 0) {
                    remember();
                }
                one.given |= given;
                total += Integer.bitCount(given);
            }
        }
        return total;
    }

    public int tick() {
        if (!hasText()) {
            return NO_SUCH;
        }
        if (season.isOver()) {
            return NONE;
        }
        remember();
        int bit = 1 << season.now;
        for (int s = 0; s < season.seriesCount; s++) {
            season.slots[s].flown |= season.slots[s].openBits() & bit;
        }
        season.now++;
        return season.now;
    }

    public int pool() {
        if (!hasText()) {
            return NO_SUCH;
        }
        drawn.serve(season, NONE);
        if (drawn.grants > 0) {
            remember();
            drawn.carryOver(season);
        }
        return drawn.grants;
    }

    public int retime(int s, int hour) {
        if (!isSeries(s) || !isHour(hour)) {
            return NO_SUCH;
        }
        if (!canRetime(s, hour)) {
            return REFUSED;
        }
        remember();
        int had = season.slots[s].hour;
        season.slots[s].hour = hour;
        return had;
    }

    public int swap(int s, int t) {
        if (!isSeries(s) || !isSeries(t)) {
            return NO_SUCH;
        }
        int why = whySwapFails(s, t);
        if (why != 0) {
            return why;
        }
        remember();
        season.slots[s].changeOver(season.slots[t]);
        return 1;
    }

    public int hand(int s, int carrier) {
        if (!isSeries(s) || !isCarrier(carrier)) {
            return NO_SUCH;
        }
        Series one = season.slots[s];
        if (one.fresh) {
            return BARRED;
        }
        if (one.carrier == carrier) {
            return REFUSED;
        }
        remember();
        int had = one.carrier;
        one.carrier = carrier;
        return had;
    }

    public int limit(int hour, int n, int m) {
        if (!isHour(hour) || !isWithin(n, 0, MAX_LIMIT) || !isWithin(m, 0, n)) {
            return NO_SUCH;
        }
        if (season.holdsMore(hour, n, m)) {
            return REFUSED;
        }
        int oldAll = season.limitAll[hour];
        int oldIn = season.limitIn[hour];
        if (oldAll != n || oldIn != m) {
            remember();
            season.limitAll[hour] = n;
            season.limitIn[hour] = m;
        }
        return 10 * oldAll + oldIn;
    }

    public int ask(int carrier, int key, int a, int b, int by) {
        int day = key / 1000;
        int hour = key % 1000 / 10;
        int way = key % 10;
        if (!isCarrier(carrier) || key < 0 || !isDay(day) || !isHour(hour) || !isWay(way)) {
            return NO_SUCH;
        }
        if (!isWeek(a) || !isWeek(b) || b - a + 1 < MIN_SPAN || !isWithin(by, 0, MAX_BY)) {
            return NO_SUCH;
        }
        if (season.askCount >= MAX_ASKS) {
            return BARRED;
        }
        remember();
        Ask one = season.addAsk();
        one.placeAt(carrier, day, hour, way);
        one.span(a, b, by);
        return season.askCount;
    }

    public int drop(int a) {
        if (!isAsk(a)) {
            return NO_SUCH;
        }
        remember();
        season.removeAsk(a);
        return season.askCount;
    }

    public int ends() {
        if (!hasText()) {
            return NO_SUCH;
        }
        if (!season.isOver()) {
            return REFUSED;
        }
        remember();
        season.startAnew();
        return season.seriesCount;
    }

    public int undo() {
        if (pastCount == 0) {
            return NONE;
        }
        pastCount--;
        season.copyFrom(past[pastCount]);
        return pastCount;
    }

    // What is told.

    public int tell() {
        if (!hasText()) {
            return NO_SUCH;
        }
        return teller.write(season, names);
    }

    public int octet(int i) {
        if (i < 0 || i >= teller.length) {
            return NONE;
        }
        return teller.out[i];
    }

    // What the calls above share.

    private void putOnTape(int four) {
        for (int shift = 24; shift >= 0; shift -= 8) {
            if (tapeLength < TAPE_BYTES) {
                tape[tapeLength] = (byte) (four >>> shift);
                tapeLength++;
            }
        }
    }

    private boolean hasText() {
        return season.length > 0;
    }

    private boolean isSeries(int s) {
        return s >= 0 && s < season.seriesCount;
    }

    private boolean isAsk(int a) {
        return a >= 0 && a < season.askCount;
    }

    private boolean isCarrier(int carrier) {
        return carrier >= 0 && carrier < names.size;
    }

    private boolean isWeek(int w) {
        return w >= 0 && w < season.length;
    }

    private boolean isDay(int day) {
        return hasText() && day >= 0 && day < DAYS;
    }

    private boolean isHour(int hour) {
        return hasText() && hour >= 0 && hour < HOURS;
    }

    private boolean isCell(int w, int day, int hour) {
        return isWeek(w) && isDay(day) && isHour(hour);
    }

    /** Keeps what stands, so that the act which follows can be undone. */
    private void remember() {
        if (pastCount == ACTS_KEPT) {
            Season oldest = past[0];
            for (int i = 1; i < ACTS_KEPT; i++) {
                past[i - 1] = past[i];
            }
            past[ACTS_KEPT - 1] = oldest;
            pastCount--;
        }
        past[pastCount].copyFrom(season);
        pastCount++;
    }

    /** Whether carrier c stands ahead of carrier d by GOOD of BASIS. */
    private boolean usesMore(int c, int d) {
        int basisC = season.basisOf(c, NONE);
        int basisD = season.basisOf(d, NONE);
        if (basisC == 0 || basisD == 0) {
            return basisC == basisD ? c < d : basisC > 0;
        }
        // Crosswise, as a quotient would be cut.
        int left = season.goodOf(c) * basisD;
        int right = season.goodOf(d) * basisC;
        return left == right ? c < d : left > right;
    }

    private int departuresBehind(Series arrival, int within) {
        int total = 0;
        for (int s = 0; s < season.seriesCount; s++) {
            Series one = season.slots[s];
            if (one.isOf(arrival.carrier, arrival.day) && one.way == OUT
                    && isWithin(one.hour - arrival.hour, 0, within)
                    && (one.heldBits() & arrival.heldBits()) != 0) {
                total++;
            }
        }
        return total;
    }

    private boolean canRetime(int s, int hour) {
        Series one = season.slots[s];
        return !season.isOver() && one.hour != hour
                && season.hasPlace(one.day, hour, one.way, one.heldBits(), 1 << s);
    }

    /** 0 if two series can be swapped, else what swap() answers. */
    private int whySwapFails(int s, int t) {
        Series one = season.slots[s];
        Series other = season.slots[t];
        if (one.fresh || other.fresh) {
            return BARRED;
        }
        if (one.carrier == other.carrier) {
            return REFUSED;
        }
        one.changeOver(other);
        boolean both = season.hasPlace(one.day, one.hour, one.way, one.heldBits(), 1 << s | 1 << t)
                && season.hasPlace(other.day, other.hour, other.way, other.heldBits(), 1 << t);
        one.changeOver(other);
        return both ? 0 : REFUSED;
    }

    private static boolean isWithin(int x, int least, int most) {
        return x >= least && x <= most;
    }

    private static boolean isWay(int way) {
        return way == IN || way == OUT;
    }

    private static boolean isState(int what) {
        return what >= OPEN && what <= GIVEN;
    }

    private static boolean isLetter(int sign) {
        return sign >= 'a' && sign <= 'z';
    }

    private static boolean isDigit(int sign) {
        return sign >= '0' && sign <= '9';
    }

    private static boolean hasBit(int bits, int i) {
        return (bits >>> i & 1) != 0;
    }

    /** The bits from one number to another; at most 30 of them, as there are no more weeks. */
    private static int spanBits(int from, int to) {
        return (1 << to - from + 1) - 1 << from;
    }

    /** All bits from a week on; a shift by 32 and more would start over. */
    private static int bitsFrom(int w) {
        return w > MAX_WEEKS ? 0 : -1 << w;
    }

    /** A SERIES. Its weeks are bits; those that are of no other sort are OPEN. */
    private static final class Series {
        int carrier = 0;
        int day = 0;
        int hour = 0;
        int way = 0;
        boolean fresh = false;
        // The weeks that it came with; all of them are in it till a season ends.
        int from = 0;
        int to = 0;
        int all = 0;
        int flown = 0;
        int missed = 0;
        int excused = 0;
        int given = 0;

        void copyFrom(Series other) {
            carrier = other.carrier;
            day = other.day;
            hour = other.hour;
            way = other.way;
            fresh = other.fresh;
            from = other.from;
            to = other.to;
            all = other.all;
            flown = other.flown;
            missed = other.missed;
            excused = other.excused;
            given = other.given;
        }

        void placeAt(int newCarrier, int newDay, int newHour, int newWay) {
            carrier = newCarrier;
            day = newDay;
            hour = newHour;
            way = newWay;
        }

        void comeWith(int newFrom, int newTo) {
            from = newFrom;
            to = newTo;
            openIn(spanBits(newFrom, newTo));
        }

        void openIn(int bits) {
            all = bits;
            flown = 0;
            missed = 0;
            excused = 0;
            given = 0;
        }

        void changeOver(Series other) {
            int oldDay = day;
            int oldHour = hour;
            int oldWay = way;
            day = other.day;
            hour = other.hour;
            way = other.way;
            other.day = oldDay;
            other.hour = oldHour;
            other.way = oldWay;
        }

        int openBits() {
            return all & ~(flown | missed | excused | given);
        }

        int heldBits() {
            return all & ~given;
        }

        int bitsThatAre(int state) {
            switch (state) {
                case FLOWN: return flown;
                case MISSED: return missed;
                case EXCUSED: return excused;
                case GIVEN: return given;
                default: return openBits();
            }
        }

        int stateOf(int w) {
            for (int state = OPEN; state <= GIVEN; state++) {
                if (hasBit(bitsThatAre(state), w)) {
                    return state;
                }
            }
            return NONE;
        }

        boolean holds(int w) {
            return hasBit(heldBits(), w);
        }

        boolean fills(int w, int someDay, int someHour) {
            return day == someDay && hour == someHour && holds(w);
        }

        /** A day of NONE stands for all days. */
        boolean isOf(int someCarrier, int someDay) {
            return carrier == someCarrier && (someDay == NONE || day == someDay);
        }

        int basis() {
            return Integer.bitCount(heldBits());
        }

        int good() {
            return Integer.bitCount(flown | excused);
        }

        private boolean isKeptWith(int goodOnes) {
            int basis = basis();
            return basis > 0 && 5 * goodOnes >= 4 * basis;
        }

        boolean isSafe() {
            return isKeptWith(good());
        }

        boolean isLost() {
            return !isKeptWith(good() + Integer.bitCount(openBits()));
        }

        int missesLeft() {
            if (isLost()) {
                return NONE;
            }
            int open = Integer.bitCount(openBits());
            int needed = (4 * basis() + 4) / 5;
            return Math.min(open, good() + open - needed);
        }
    }

    /** An ASK. */
    private static final class Ask {
        int carrier = 0;
        int day = 0;
        int hour = 0;
        int way = 0;
        int from = 0;
        int to = 0;
        int by = 0;

        void copyFrom(Ask other) {
            placeAt(other.carrier, other.day, other.hour, other.way);
            span(other.from, other.to, other.by);
        }

        void placeAt(int newCarrier, int newDay, int newHour, int newWay) {
            carrier = newCarrier;
            day = newDay;
            hour = newHour;
            way = newWay;
        }

        void span(int newFrom, int newTo, int newBy) {
            from = newFrom;
            to = newTo;
            by = newBy;
        }

        int wantedBits() {
            return spanBits(from, to);
        }
    }

    /** All that acts can change; without a TEXT its length is 0. */
    private static final class Season {
        int length = 0;
        int now = 0;
        int ended = 0;
        int seriesCount = 0;
        int askCount = 0;
        final int[] limitAll = new int[HOURS];
        final int[] limitIn = new int[HOURS];
        final Series[] slots = new Series[MAX_SERIES];
        final Ask[] asks = new Ask[MAX_ASKS];
        // Used anew by each weeksLoaded().
        private final int[] loaded = new int[MAX_SERIES + 1];

        Season() {
            for (int s = 0; s < MAX_SERIES; s++) {
                slots[s] = new Series();
            }
            for (int a = 0; a < MAX_ASKS; a++) {
                asks[a] = new Ask();
            }
        }

        void copyFrom(Season other) {
            length = other.length;
            now = other.now;
            ended = other.ended;
            seriesCount = other.seriesCount;
            askCount = other.askCount;
            for (int hour = 0; hour < HOURS; hour++) {
                limitAll[hour] = other.limitAll[hour];
                limitIn[hour] = other.limitIn[hour];
            }
            for (int s = 0; s < seriesCount; s++) {
                slots[s].copyFrom(other.slots[s]);
            }
            for (int a = 0; a < askCount; a++) {
                asks[a].copyFrom(other.asks[a]);
            }
        }

        void clear() {
            length = 0;
            now = 0;
            ended = 0;
            seriesCount = 0;
            askCount = 0;
            for (int hour = 0; hour < HOURS; hour++) {
                limitAll[hour] = USUAL_LIMIT;
                limitIn[hour] = USUAL_LIMIT;
            }
        }

        /** The series that comes last; the caller has seen that there is one to be had. */
        Series addSeries() {
            int s = Math.min(seriesCount, MAX_SERIES - 1);
            seriesCount = s + 1;
            return slots[s];
        }

        /** The ask that comes last; the caller has seen that there is one to be had. */
        Ask addAsk() {
            int a = Math.min(askCount, MAX_ASKS - 1);
            askCount = a + 1;
            return asks[a];
        }

        void removeAsk(int a) {
            Ask gone = asks[a];
            for (int i = a + 1; i < askCount; i++) {
                asks[i - 1] = asks[i];
            }
            askCount--;
            // The object is used again by a later ask.
            asks[askCount] = gone;
        }

        boolean isOver() {
            return now >= length;
        }

        int weeksToCome() {
            return isOver() ? 0 : spanBits(now, length - 1);
        }

        int loadOf(int w, int day, int hour) {
            int load = 0;
            for (int s = 0; s < seriesCount; s++) {
                if (slots[s].fills(w, day, hour)) {
                    load++;
                }
            }
            return load;
        }

        int loadIn(int w, int day, int hour) {
            int load = 0;
            for (int s = 0; s < seriesCount; s++) {
                if (slots[s].way == IN && slots[s].fills(w, day, hour)) {
                    load++;
                }
            }
            return load;
        }

        /**
         * The weeks (bits) in which a day's hour has at least so much LOAD, all
         * or only of those that come in, some series (bits) being out. All
         * weeks are counted at once: loaded[k] has those with k and more.
         */
        int weeksLoaded(int day, int hour, int least, boolean inOnly, int without) {
            if (least <= 0) {
                return -1;
            }
            if (least > seriesCount) {
                return 0;
            }
            loaded[0] = -1;
            for (int k = 1; k <= least; k++) {
                loaded[k] = 0;
            }
            for (int s = 0; s < seriesCount; s++) {
                Series one = slots[s];
                if (one.day == day && one.hour == hour && !hasBit(without, s)
                        && (one.way == IN || !inOnly)) {
                    int held = one.heldBits();
                    for (int k = least; k >= 1; k--) {
                        loaded[k] |= loaded[k - 1] & held;
                    }
                }
            }
            return loaded[least];
        }

        /** Whether one more with these weeks (bits) FITS, some series (bits) being out. */
        boolean hasPlace(int day, int hour, int way, int bits, int without) {
            int coming = bits & bitsFrom(now);
            if ((coming & weeksLoaded(day, hour, limitAll[hour], false, without)) != 0) {
                return false;
            }
            return way == OUT
                    || (coming & weeksLoaded(day, hour, limitIn[hour], true, without)) == 0;
        }

        boolean hasPlaceFor(Ask one, int hour, int without) {
            return hasPlace(one.day, hour, one.way, one.wantedBits(), without);
        }

        /** The hour at which an ask would be GRANTED, or NONE. */
        int hourFor(Ask one) {
            if (seriesCount >= MAX_SERIES || one.to < now) {
                return NONE;
            }
            int bits = one.wantedBits();
            if (hasPlace(one.day, one.hour, one.way, bits, 0)) {
                return one.hour;
            }
            for (int far = 1; far <= one.by; far++) {
                int earlier = one.hour - far;
                if (earlier >= 0 && hasPlace(one.day, earlier, one.way, bits, 0)) {
                    return earlier;
                }
                int later = one.hour + far;
                if (later < HOURS && hasPlace(one.day, later, one.way, bits, 0)) {
                    return later;
                }
            }
            return NONE;
        }

        void grant(Ask one, int hour) {
            Series made = addSeries();
            made.placeAt(one.carrier, one.day, hour, one.way);
            made.comeWith(Math.max(one.from, now), one.to);
            made.fresh = true;
        }

        /** Whether an hour has more LOAD in a week to come than all, or in, would allow. */
        boolean holdsMore(int hour, int all, int in) {
            int more = 0;
            for (int day = 0; day < DAYS; day++) {
                more |= weeksLoaded(day, hour, all + 1, false, 0);
                more |= weeksLoaded(day, hour, in + 1, true, 0);
            }
            return (more & weeksToCome()) != 0;
        }

        int seriesOf(int carrier, int day) {
            int total = 0;
            for (int s = 0; s < seriesCount; s++) {
                if (slots[s].isOf(carrier, day)) {
                    total++;
                }
            }
            return total;
        }

        int basisOf(int carrier, int day) {
            int total = 0;
            for (int s = 0; s < seriesCount; s++) {
                if (slots[s].isOf(carrier, day)) {
                    total += slots[s].basis();
                }
            }
            return total;
        }

        int goodOf(int carrier) {
            int total = 0;
            for (int s = 0; s < seriesCount; s++) {
                if (slots[s].carrier == carrier) {
                    total += slots[s].good();
                }
            }
            return total;
        }

        /** The season ends and another begins with what is KEPT. */
        void startAnew() {
            int stay = 0;
            for (int s = 0; s < seriesCount; s++) {
                Series one = slots[s];
                if (one.isSafe()) {
                    one.openIn(one.heldBits());
                    one.fresh = false;
                    slots[s] = slots[stay];
                    slots[stay] = one;
                    stay++;
                }
            }
            seriesCount = stay;
            askCount = 0;
            now = 0;
            ended++;
        }
    }

    /** The POOL, tried out on a season of its own. */
    private static final class Pool {
        private final Season trial = new Season();
        private final int[] slotsHeld = new int[MAX_CARRIERS * DAYS];
        final int[] turnOf = new int[MAX_ASKS];
        final int[] hourOf = new int[MAX_ASKS];
        int grants = 0;

        int firstOf(Season from) {
            trial.copyFrom(from);
            countSlots();
            return chosen(allAsks(), true);
        }

        /** Looks at each ask that waits, one hour's limit being one more (NONE: no hour's). */
        void serve(Season from, int helped) {
            trial.copyFrom(from);
            if (helped >= 0 && helped < HOURS) {
                trial.limitAll[helped]++;
                trial.limitIn[helped]++;
            }
            countSlots();
            grants = 0;
            int left = allAsks();
            for (int turn = 0; turn < trial.askCount; turn++) {
                int a = chosen(left, turn % 2 == 0);
                if (a >= 0 && a < trial.askCount) {
                    left &= ~(1 << a);
                    turnOf[a] = turn;
                    lookAt(a);
                }
            }
        }

        /** What the latest serve() came to becomes what stands. */
        void carryOver(Season to) {
            to.copyFrom(trial);
            for (int a = trial.askCount - 1; a >= 0; a--) {
                if (hourOf[a] != NONE) {
                    to.removeAsk(a);
                }
            }
        }

        private int allAsks() {
            return (1 << trial.askCount) - 1;
        }

        private void countSlots() {
            for (int i = 0; i < slotsHeld.length; i++) {
                slotsHeld[i] = 0;
            }
            for (int s = 0; s < trial.seriesCount; s++) {
                slotsHeld[trial.slots[s].carrier * DAYS + trial.slots[s].day]++;
            }
        }

        private boolean isEntrants(Ask one) {
            return slotsHeld[one.carrier * DAYS + one.day] < ENTRANT_BELOW;
        }

        private int chosen(int left, boolean entrants) {
            int a = longestOf(left, entrants);
            return a != NONE ? a : longestOf(left, !entrants);
        }

        private int longestOf(int left, boolean entrants) {
            int found = NONE;
            int most = 0;
            for (int a = 0; a < trial.askCount; a++) {
                Ask one = trial.asks[a];
                int asked = one.to - one.from + 1;
                if (hasBit(left, a) && asked > most && isEntrants(one) == entrants) {
                    found = a;
                    most = asked;
                }
            }
            return found;
        }

        private void lookAt(int a) {
            Ask one = trial.asks[a];
            hourOf[a] = trial.hourFor(one);
            if (hourOf[a] != NONE) {
                trial.grant(one, hourOf[a]);
                slotsHeld[one.carrier * DAYS + one.day]++;
                grants++;
            }
        }
    }

    /** The carriers' names; a letter is 1 to 26, behind a name stands 0. */
    private static final class Names {
        int size = 0;
        private final int[] letters = new int[MAX_CARRIERS * NAME_LETTERS];

        void copyFrom(Names other) {
            size = other.size;
            for (int i = 0; i < letters.length; i++) {
                letters[i] = other.letters[i];
            }
        }

        int letterOf(int carrier, int i) {
            return letters[carrier * NAME_LETTERS + i];
        }

        /** The bytes from one place to ahead of another are 1 to 6 letters, as the caller has seen. */
        int carrierNamed(byte[] bytes, int from, int to) {
            for (int carrier = 0; carrier < size; carrier++) {
                if (isNamed(carrier, bytes, from, to)) {
                    return carrier;
                }
            }
            return NONE;
        }

        private boolean isNamed(int carrier, byte[] bytes, int from, int to) {
            for (int i = 0; i < NAME_LETTERS; i++) {
                int letter = from + i < to ? bytes[from + i] - 'a' + 1 : 0;
                if (letters[carrier * NAME_LETTERS + i] != letter) {
                    return false;
                }
            }
            return true;
        }

        /** As carrierNamed(); the caller has seen that there is a name to be had. */
        void add(byte[] bytes, int from, int to) {
            int carrier = Math.min(size, MAX_CARRIERS - 1);
            for (int i = 0; i < NAME_LETTERS; i++) {
                int letter = from + i < to ? bytes[from + i] - 'a' + 1 : 0;
                letters[carrier * NAME_LETTERS + i] = letter;
            }
            size = carrier + 1;
        }
    }

    /**
     * Reads a TEXT, token by token. It looks at each rule at the token at which
     * the rule's fault is told, so the first fault met is the one due.
     */
    private static final class Reader {
        private static final int AT_END = 0;
        private static final int WORD = 1;
        private static final int NUMBER = 2;
        private static final int SIGN = 3;
        // Above all bounds: longer numbers are not told apart from it.
        private static final int HUGE = 100000;

        final Season season = new Season();
        final Names names = new Names();
        int lines = 0;
        int fault = 0;
        int faultPlace = NONE;
        private byte[] bytes = new byte[0];
        private int length = 0;
        private int start = 0;
        private int stop = 0;
        private int kind = AT_END;
        private int value = 0;
        private int hoursLimited = 0;
        // What a series and an ask have alike, of the line being read.
        private int carrier = 0;
        private int day = 0;
        private int hour = 0;
        private int way = 0;
        private int from = 0;
        private int to = 0;

        boolean readText(byte[] tape, int tapeLength) {
            bytes = tape;
            length = Math.min(tapeLength, tape.length);
            stop = 0;
            lines = 0;
            fault = 0;
            faultPlace = NONE;
            hoursLimited = 0;
            season.clear();
            names.size = 0;
            advance();
            if (!readWeeks()) {
                return false;
            }
            lines = 1;
            // Each line has a byte at least.
            for (int i = 0; i < length && kind != AT_END; i++) {
                if (!readLine()) {
                    return false;
                }
                lines++;
            }
            return true;
        }

        private boolean readWeeks() {
            if (!takeWord(WEEKS_WORD) || !isNumber(MIN_WEEKS, MAX_WEEKS)) {
                return false;
            }
            season.length = value;
            advance();
            return takeSign(';');
        }

        private boolean readLine() {
            if (isWord(LIMIT_WORD)) {
                return readLimit();
            }
            if (isWord(CARRIER_WORD)) {
                return readCarrier();
            }
            if (isWord(SERIES_WORD)) {
                return readSeries();
            }
            if (isWord(ASK_WORD)) {
                return readAsk();
            }
            return fail(1);
        }

        private boolean readLimit() {
            if (season.seriesCount > 0) {
                return fail(5);
            }
            advance();
            if (!isNumber(0, HOURS - 1)) {
                return false;
            }
            int limited = value;
            if (hasBit(hoursLimited, limited)) {
                return fail(3);
            }
            hoursLimited |= 1 << limited;
            advance();
            if (!isNumber(0, MAX_LIMIT)) {
                return false;
            }
            int most = value;
            advance();
            if (!takeWord(IN_WORD) || !isNumber(0, most)) {
                return false;
            }
            season.limitAll[limited] = most;
            season.limitIn[limited] = value;
            advance();
            return takeSign(';');
        }

        private boolean readCarrier() {
            if (names.size >= MAX_CARRIERS) {
                return fail(5);
            }
            advance();
            if (!isName()) {
                return fail(1);
            }
            if (names.carrierNamed(bytes, start, stop) != NONE) {
                return fail(3);
            }
            names.add(bytes, start, stop);
            advance();
            return takeSign(';');
        }

        private boolean readSeries() {
            if (season.seriesCount >= MAX_SERIES) {
                return fail(5);
            }
            advance();
            if (!readPlace() || !readSpan()) {
                return false;
            }
            boolean fresh = isWord(NEW_WORD);
            if (fresh) {
                advance();
            }
            if (!isSign(';')) {
                return fail(1);
            }
            if (!season.hasPlace(day, hour, way, spanBits(from, to), 0)) {
                return fail(6);
            }
            Series made = season.addSeries();
            made.placeAt(carrier, day, hour, way);
            made.comeWith(from, to);
            made.fresh = fresh;
            advance();
            return true;
        }

        private boolean readAsk() {
            if (season.askCount >= MAX_ASKS) {
                return fail(5);
            }
            advance();
            if (!readPlace() || !readSpan()) {
                return false;
            }
            int by = 0;
            if (isWord(BY_WORD)) {
                advance();
                if (!isNumber(0, MAX_BY)) {
                    return false;
                }
                by = value;
                advance();
            }
            Ask made = season.addAsk();
            made.placeAt(carrier, day, hour, way);
            made.span(from, to, by);
            return takeSign(';');
        }

        /** Who, on which day, at which hour, which way. */
        private boolean readPlace() {
            if (!isName()) {
                return fail(1);
            }
            carrier = names.carrierNamed(bytes, start, stop);
            if (carrier == NONE) {
                return fail(4);
            }
            advance();
            // The days are the first of the words.
            if (kind != WORD || !isWithin(value, 0, DAYS - 1)) {
                return fail(1);
            }
            day = value;
            advance();
            if (!isNumber(0, HOURS - 1)) {
                return false;
            }
            hour = value;
            advance();
            if (!isWord(IN_WORD) && !isWord(OUT_WORD)) {
                return fail(1);
            }
            way = isWord(IN_WORD) ? IN : OUT;
            advance();
            return true;
        }

        /** From week to week; what is wrong with either is told at the second. */
        private boolean readSpan() {
            if (kind != NUMBER) {
                return fail(1);
            }
            from = value;
            advance();
            if (!isSign('-')) {
                return fail(1);
            }
            advance();
            if (!isNumber(from + MIN_SPAN - 1, season.length - 1)) {
                return false;
            }
            to = value;
            advance();
            return true;
        }

        private boolean takeWord(int word) {
            if (!isWord(word)) {
                return fail(1);
            }
            advance();
            return true;
        }

        private boolean takeSign(char sign) {
            if (!isSign(sign)) {
                return fail(1);
            }
            advance();
            return true;
        }

        private boolean isNumber(int least, int most) {
            if (kind != NUMBER) {
                return fail(1);
            }
            return isWithin(value, least, most) || fail(2);
        }

        private boolean isSign(char sign) {
            return kind == SIGN && value == sign;
        }

        private boolean isWord(int word) {
            return kind == WORD && value == word;
        }

        private boolean isName() {
            return kind == WORD && value == NONE && stop - start <= NAME_LETTERS;
        }

        private boolean fail(int number) {
            fault = number;
            faultPlace = start;
            return false;
        }

        /** Goes on to the next token. */
        private void advance() {
            start = stop;
            while (start < length && (bytes[start] == ' ' || bytes[start] == '\n')) {
                start++;
            }
            stop = start;
            value = 0;
            if (start >= length) {
                kind = AT_END;
            } else if (isLetter(bytes[start])) {
                kind = WORD;
                while (stop < length && isLetter(bytes[stop])) {
                    stop++;
                }
                value = wordTold();
            } else if (isDigit(bytes[start])) {
                kind = NUMBER;
                while (stop < length && isDigit(bytes[stop])) {
                    value = Math.min(value * 10 + bytes[stop] - '0', HUGE);
                    stop++;
                }
            } else {
                kind = SIGN;
                value = bytes[start];
                stop++;
            }
        }

        /** The number of the token among the words of a TEXT, or NONE. */
        private int wordTold() {
            int word = 0;
            int at = start;
            boolean alike = true;
            for (int i = 0; i < WORDS.length(); i++) {
                char sign = WORDS.charAt(i);
                if (sign == ' ') {
                    if (alike && at == stop) {
                        return word;
                    }
                    word++;
                    at = start;
                    alike = true;
                } else {
                    alike = alike && at < stop && bytes[at] == sign;
                    at++;
                }
            }
            return NONE;
        }
    }

    /** Writes OUT. */
    private static final class Teller {
        final byte[] out = new byte[OUT_BYTES];
        int length = 0;

        int write(Season season, Names names) {
            length = 0;
            putWord("weeks");
            putNumber(season.length);
            putSign(';');
            for (int hour = 0; hour < HOURS; hour++) {
                if (season.limitAll[hour] != USUAL_LIMIT || season.limitIn[hour] != USUAL_LIMIT) {
                    putLimit(hour, season.limitAll[hour], season.limitIn[hour]);
                }
            }
            for (int carrier = 0; carrier < names.size; carrier++) {
                putWord("carrier");
                putName(names, carrier);
                putSign(';');
            }
            for (int s = 0; s < season.seriesCount; s++) {
                putSeries(season.slots[s], names);
            }
            for (int a = 0; a < season.askCount; a++) {
                putAsk(season.asks[a], names);
            }
            return length;
        }

        private void putLimit(int hour, int all, int in) {
            putWord("limit");
            putNumber(hour);
            putNumber(all);
            putWord("in");
            putNumber(in);
            putSign(';');
        }

        private void putSeries(Series one, Names names) {
            putWord("series");
            putName(names, one.carrier);
            putPlace(one.day, one.hour, one.way);
            putSpan(one.from, one.to);
            if (one.fresh) {
                putWord("new");
            }
            putSign(';');
        }

        private void putAsk(Ask one, Names names) {
            putWord("ask");
            putName(names, one.carrier);
            putPlace(one.day, one.hour, one.way);
            putSpan(one.from, one.to);
            if (one.by > 0) {
                putWord("by");
                putNumber(one.by);
            }
            putSign(';');
        }

        private void putPlace(int day, int hour, int way) {
            putBlank();
            for (int i = 0; i < DAY_LETTERS; i++) {
                putSign(WORDS.charAt(day * (DAY_LETTERS + 1) + i));
            }
            putNumber(hour);
            putWord(way == IN ? "in" : "out");
        }

        private void putSpan(int from, int to) {
            putNumber(from);
            putSign('-');
            putNumber(to);
        }

        private void putName(Names names, int carrier) {
            putBlank();
            for (int i = 0; i < NAME_LETTERS; i++) {
                int letter = names.letterOf(carrier, i);
                if (letter > 0) {
                    putSign((char) ('a' + letter - 1));
                }
            }
        }

        private void putWord(String word) {
            putBlank();
            for (int i = 0; i < word.length(); i++) {
                putSign(word.charAt(i));
            }
        }

        /** No number that is told has more than two digits. */
        private void putNumber(int number) {
            putBlank();
            if (number >= 10) {
                putSign((char) ('0' + number / 10 % 10));
            }
            putSign((char) ('0' + number % 10));
        }

        /** A blank, but at the start and behind a sign. */
        private void putBlank() {
            if (length > 0 && (isLetter(out[length - 1]) || isDigit(out[length - 1]))) {
                putSign(' ');
            }
        }

        private void putSign(char sign) {
            if (length < OUT_BYTES) {
                out[length] = (byte) sign;
                length++;
            }
        }
    }
}
