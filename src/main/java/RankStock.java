import java.util.ArrayList;

/** Rodeos: entries placed by one office, beasts drawn, rides, money and ranks. */
public final class RankStock {
    public static final int NONE = -1;
    public static final int BULL = 0, HORSE = 1;
    public static final int OPEN = 0, CLOSED = 1, DRAWN = 2, PAID = 3;

    private static final int MAX_BEASTS = 16;
    private static final int MAX_RIDERS = 12;
    private static final int MAX_RODEOS = 8;
    private static final int MAX_MILE = 2000;
    private static final int MAX_FIRST = 60;
    private static final int MAX_PERFORMANCES = 4;
    private static final int MAX_PLACES = 4;
    private static final int MAX_ADDED = 99999;
    private static final int MAX_FEE = 999;
    private static final int MILES_A_DAY = 400;

    private static final int HIDDEN_MODULUS = 65537;
    private static final int HIDDEN_FACTOR = 75;
    private static final int HIDDEN_STEP = 74;

    private static final int MARK_BASE = 26;
    private static final int MAX_MARKS = MARK_BASE * MARK_BASE * MARK_BASE * MARK_BASE - 1;
    private static final int WATCH_BASE = 1000;
    private static final int MAX_WATCHES = WATCH_BASE * WATCH_BASE - 1;
    private static final int FULL_TIME_TWICE = 1600;
    private static final int FAIR_BEAST_MARKS = 20;

    private static final int[] HUNDREDTHS = {40, 30, 20, 10};

    private final ArrayList<Beast> beasts;
    private final ArrayList<Rodeo> rodeos;
    private int riders;
    private int hidden;

    public RankStock() {
        beasts = new ArrayList<Beast>();
        rodeos = new ArrayList<Rodeo>();
        riders = 0;
        hidden = 1;
    }

    // ---- beasts, riders, rodeos

    public int beast(int kind) throws IllegalArgumentException, IllegalStateException {
        if (!isKind(kind)) {
            throw new IllegalArgumentException("no such kind");
        }
        if (beasts.size() >= MAX_BEASTS) {
            throw new IllegalStateException("no more beasts");
        }
        int number = beasts.size();
        beasts.add(new Beast(number, kind));
        return number;
    }

    public int rider() throws IllegalStateException {
        if (riders >= MAX_RIDERS) {
            throw new IllegalStateException("no more riders");
        }
        riders++;
        return riders - 1;
    }

    public int rodeo(int kind, int mile, int first, int performances, int places, int added, int fee)
            throws IllegalArgumentException, IllegalStateException {
        if (!isKind(kind) || !isWithin(mile, 0, MAX_MILE) || !isWithin(first, 0, MAX_FIRST)) {
            throw new IllegalArgumentException("kind, mile or first day");
        }
        if (!isWithin(performances, 1, MAX_PERFORMANCES) || !isWithin(places, 1, MAX_PLACES)) {
            throw new IllegalArgumentException("performances or places");
        }
        if (!isWithin(added, 0, MAX_ADDED) || !isWithin(fee, 0, MAX_FEE)) {
            throw new IllegalArgumentException("money added or fee");
        }
        if (rodeos.size() >= MAX_RODEOS) {
            throw new IllegalStateException("no more rodeos");
        }
        rodeos.add(new Rodeo(kind, mile, first, performances, places, added, fee));
        return rodeos.size() - 1;
    }

    public int rodeoIs(int rodeo, int what) throws IndexOutOfBoundsException, IllegalArgumentException {
        Rodeo asked = rodeoAt(rodeo);
        switch (what) {
            case 0:
                return asked.state;
            case 1:
                return asked.entries.size();
            case 2:
                return asked.countPlaced();
            case 3:
                return asked.pot();
            case 4:
                return asked.office;
            default:
                throw new IllegalArgumentException("no such question");
        }
    }

    // ---- entries

    public int enter(int rodeo, int rider, int set, int wish)
            throws IndexOutOfBoundsException, IllegalArgumentException, IllegalStateException {
        Entry earlier = entryAt(rodeo, rider);
        Rodeo entered = rodeoAt(rodeo);
        if (!isWithin(set, 1, (1 << entered.performances) - 1)) {
            throw new IllegalArgumentException("no such set of performances");
        }
        if (!isWithin(wish, 0, entered.performances - 1) || !isInSet(set, wish)) {
            throw new IllegalArgumentException("the wish is not in the set");
        }
        if (entered.state != OPEN || earlier != null) {
            throw new IllegalStateException("not open, or entered by that rider");
        }
        entered.addEntry(new Entry(rider, set, wish));
        return entered.entries.size();
    }

    public int close(int rodeo) throws IndexOutOfBoundsException, IllegalStateException {
        Rodeo closing = rodeoAt(rodeo);
        if (closing.state != OPEN) {
            throw new IllegalStateException("not open");
        }
        for (int i = 0; i < closing.entries.size(); i++) {
            Entry entry = closing.entries.get(i);
            entry.performance = performanceFor(closing, entry);
        }
        closing.state = CLOSED;
        return closing.countPlaced();
    }

    public int placed(int rodeo, int rider) throws IndexOutOfBoundsException {
        Entry entry = entryAt(rodeo, rider);
        return entry == null ? NONE : entry.performance;
    }

    // The most that can be placed is the least, over all sets of performances, of the places in
    // the set and the entries that could go to a performance outside of it (the least cut of the
    // flow from the entries to the places): at most 16 sets, so nothing has to be tried and undone.
    public int most(int rodeo) throws IndexOutOfBoundsException {
        Rodeo asked = rodeoAt(rodeo);
        int least = asked.entries.size();
        for (int set = 0; set < 1 << asked.performances; set++) {
            int limit = asked.places * Integer.bitCount(set) + countWithWaysOutside(asked, set);
            least = Math.min(least, limit);
        }
        return least;
    }

    // ---- draws, rides

    public void hide(int number) throws IllegalArgumentException {
        if (!isWithin(number, 0, HIDDEN_MODULUS - 1)) {
            throw new IllegalArgumentException("no such hidden number");
        }
        hidden = number;
    }

    public int draw(int rodeo) throws IndexOutOfBoundsException, IllegalStateException {
        Rodeo drawing = rodeoAt(rodeo);
        if (drawing.state != CLOSED) {
            throw new IllegalStateException("not closed");
        }
        int mounted = 0;
        for (int performance = 0; performance < drawing.performances; performance++) {
            mounted += mountAll(drawing, performance);
        }
        drawing.state = DRAWN;
        return mounted;
    }

    public int drawn(int rodeo, int rider) throws IndexOutOfBoundsException {
        Entry entry = entryAt(rodeo, rider);
        return entry == null ? NONE : entry.beastNumber();
    }

    public int ride(int rodeo, int rider, int marks, int watches, boolean isFoul)
            throws IndexOutOfBoundsException, IllegalArgumentException, IllegalStateException {
        Entry entry = entryAt(rodeo, rider);
        if (!isWithin(marks, 0, MAX_MARKS) || !isWithin(watches, 0, MAX_WATCHES)) {
            throw new IllegalArgumentException("marks or watches");
        }
        if (rodeoAt(rodeo).state != DRAWN || entry == null || !entry.isToRide) {
            throw new IllegalStateException("no beast to be ridden");
        }
        int riderMarks = markAt(marks, 0) + markAt(marks, 2);
        int beastMarks = markAt(marks, 1) + markAt(marks, 3);
        boolean isLongEnough = watches / WATCH_BASE + watches % WATCH_BASE >= FULL_TIME_TWICE;
        entry.takeRide(!isFoul && isLongEnough, riderMarks, beastMarks);
        return entry.points;
    }

    public boolean isOffered(int rodeo, int rider) throws IndexOutOfBoundsException {
        Entry entry = entryAt(rodeo, rider);
        return entry != null && entry.hasOffer;
    }

    public int answer(int rodeo, int rider, boolean isTaken)
            throws IndexOutOfBoundsException, IllegalStateException {
        Entry entry = entryAt(rodeo, rider);
        if (entry == null || !entry.hasOffer) {
            throw new IllegalStateException("no re-ride is offered");
        }
        entry.hasOffer = false;
        if (!isTaken) {
            return NONE;
        }
        entry.loseScore();
        entry.isReRide = true;
        mount(rodeoAt(rodeo), entry);
        return entry.beastNumber();
    }

    public int score(int rodeo, int rider) throws IndexOutOfBoundsException {
        Entry entry = entryAt(rodeo, rider);
        return entry == null ? NONE : entry.points;
    }

    public int beastIs(int beast, int what) throws IndexOutOfBoundsException, IllegalArgumentException {
        if (beast < 0 || beast >= beasts.size()) {
            throw new IndexOutOfBoundsException("no such beast");
        }
        Beast asked = beasts.get(beast);
        switch (what) {
            case 0:
                return asked.kind;
            case 1:
                return asked.trips;
            case 2:
                return asked.buckOffs;
            case 3:
                return asked.marks;
            case 4:
                return rankOfBeast(asked);
            default:
                throw new IllegalArgumentException("no such question");
        }
    }

    // ---- money

    public int pay(int rodeo) throws IndexOutOfBoundsException, IllegalStateException {
        Rodeo paying = rodeoAt(rodeo);
        if (!paying.canBePaid()) {
            throw new IllegalStateException("cannot be paid");
        }
        paying.payOut();
        return paying.countCounting();
    }

    public int got(int rodeo, int rider) throws IndexOutOfBoundsException {
        Entry entry = entryAt(rodeo, rider);
        return entry == null ? 0 : entry.money;
    }

    public int counts(int rider) throws IndexOutOfBoundsException {
        checkRider(rider);
        return bestThreePays(rider);
    }

    public int ranked(int rank) throws IllegalArgumentException {
        if (!isWithin(rank, 0, MAX_RIDERS - 1)) {
            throw new IllegalArgumentException("no such rank");
        }
        for (int rider = 0; rider < riders; rider++) {
            if (rankOfRider(rider) == rank) {
                return rider;
            }
        }
        return NONE;
    }

    public boolean balances() {
        for (int i = 0; i < rodeos.size(); i++) {
            if (!rodeos.get(i).isEven()) {
                return false;
            }
        }
        for (int i = 0; i < beasts.size(); i++) {
            if (!beasts.get(i).hasAlwaysRested()) {
                return false;
            }
        }
        return true;
    }

    // ---- what the calls are made of

    private static boolean isWithin(int value, int least, int greatest) {
        return value >= least && value <= greatest;
    }

    private static boolean isKind(int kind) {
        return kind == BULL || kind == HORSE;
    }

    private static boolean isInSet(int set, int performance) {
        return (set >> performance & 1) == 1;
    }

    private static int markAt(int marks, int digit) {
        int rest = marks;
        for (int i = 0; i < digit; i++) {
            rest /= MARK_BASE;
        }
        return rest % MARK_BASE;
    }

    private static int split(int money, int heads) {
        return heads < 1 ? 0 : money / heads;
    }

    private Rodeo rodeoAt(int rodeo) {
        if (rodeo < 0 || rodeo >= rodeos.size()) {
            throw new IndexOutOfBoundsException("no such rodeo");
        }
        return rodeos.get(rodeo);
    }

    private void checkRider(int rider) {
        if (rider < 0 || rider >= riders) {
            throw new IndexOutOfBoundsException("no such rider");
        }
    }

    /** The rider's entry to the rodeo, or null without one. */
    private Entry entryAt(int rodeo, int rider) {
        Rodeo asked = rodeoAt(rodeo);
        checkRider(rider);
        return asked.entryOf(rider);
    }

    private int performanceFor(Rodeo closing, Entry entry) {
        if (canBePlaced(closing, entry.rider, entry.wish)) {
            return entry.wish;
        }
        for (int performance = 0; performance < closing.performances; performance++) {
            if (isInSet(entry.set, performance) && canBePlaced(closing, entry.rider, performance)) {
                return performance;
            }
        }
        return NONE;
    }

    private boolean canBePlaced(Rodeo closing, int rider, int performance) {
        return closing.countIn(performance) < closing.places && canGet(closing, rider, performance);
    }

    private boolean canGet(Rodeo there, int rider, int performance) {
        int day = there.dayOf(performance);
        for (int i = 0; i < rodeos.size(); i++) {
            Rodeo other = rodeos.get(i);
            Entry entry = other == there ? null : other.entryOf(rider);
            if (entry != null && entry.isPlaced()) {
                int daysApart = Math.abs(day - other.dayOf(entry.performance));
                int milesApart = Math.abs(there.mile - other.mile);
                if (daysApart == 0 || MILES_A_DAY * daysApart < milesApart) {
                    return false;
                }
            }
        }
        return true;
    }

    private int countWithWaysOutside(Rodeo asked, int set) {
        int count = 0;
        for (int i = 0; i < asked.entries.size(); i++) {
            if (hasWayOutside(asked, asked.entries.get(i), set)) {
                count++;
            }
        }
        return count;
    }

    private boolean hasWayOutside(Rodeo asked, Entry entry, int set) {
        for (int performance = 0; performance < asked.performances; performance++) {
            boolean isWanted = isInSet(entry.set, performance) && !isInSet(set, performance);
            if (isWanted && canGet(asked, entry.rider, performance)) {
                return true;
            }
        }
        return false;
    }

    private int mountAll(Rodeo drawing, int performance) {
        int mounted = 0;
        for (int i = 0; i < drawing.entries.size(); i++) {
            Entry entry = drawing.entries.get(i);
            if (entry.performance == performance) {
                mount(drawing, entry);
                mounted += entry.isToRide ? 1 : 0;
            }
        }
        return mounted;
    }

    private void mount(Rodeo drawing, Entry entry) {
        entry.beast = drawBeast(drawing.kind, drawing.dayOf(entry.performance));
        entry.isToRide = entry.beast != null;
    }

    /** The beast that the hidden number takes, or null if none can be drawn. */
    private Beast drawBeast(int kind, int day) {
        int count = countDrawable(kind, day);
        if (count < 1) {
            return null;
        }
        hidden = (HIDDEN_FACTOR * hidden + HIDDEN_STEP) % HIDDEN_MODULUS;
        Beast taken = drawableAt(kind, day, hidden % count);
        if (taken != null) {
            taken.noteDraw(day);
        }
        return taken;
    }

    private int countDrawable(int kind, int day) {
        int count = 0;
        for (int i = 0; i < beasts.size(); i++) {
            if (beasts.get(i).canBeDrawn(kind, day)) {
                count++;
            }
        }
        return count;
    }

    private Beast drawableAt(int kind, int day, int place) {
        int ahead = 0;
        for (int i = 0; i < beasts.size(); i++) {
            Beast beast = beasts.get(i);
            if (beast.canBeDrawn(kind, day)) {
                if (ahead == place) {
                    return beast;
                }
                ahead++;
            }
        }
        return null;
    }

    private int rankOfBeast(Beast asked) {
        if (asked.trips == 0) {
            return NONE;
        }
        int ahead = 0;
        for (int i = 0; i < beasts.size(); i++) {
            Beast other = beasts.get(i);
            if (other.trips > 0 && other.isAheadOf(asked)) {
                ahead++;
            }
        }
        return ahead;
    }

    private int moneyOf(Rodeo rodeo, int rider) {
        Entry entry = rodeo.entryOf(rider);
        return entry == null ? 0 : entry.money;
    }

    private int bestThreePays(int rider) {
        int best = 0;
        int second = 0;
        int third = 0;
        for (int i = 0; i < rodeos.size(); i++) {
            int money = moneyOf(rodeos.get(i), rider);
            if (money > best) {
                third = second;
                second = best;
                best = money;
            } else if (money > second) {
                third = second;
                second = money;
            } else if (money > third) {
                third = money;
            }
        }
        return best + second + third;
    }

    private int allPays(int rider) {
        int sum = 0;
        for (int i = 0; i < rodeos.size(); i++) {
            sum += moneyOf(rodeos.get(i), rider);
        }
        return sum;
    }

    private int rankOfRider(int asked) {
        int ahead = 0;
        for (int rider = 0; rider < riders; rider++) {
            if (isRiderAhead(rider, asked)) {
                ahead++;
            }
        }
        return ahead;
    }

    private boolean isRiderAhead(int rider, int other) {
        int byBest = Integer.compare(bestThreePays(rider), bestThreePays(other));
        if (byBest != 0) {
            return byBest > 0;
        }
        int byAll = Integer.compare(allPays(rider), allPays(other));
        if (byAll != 0) {
            return byAll > 0;
        }
        return rider < other;
    }

    private static final class Beast {
        final int number;
        final int kind;
        int trips;
        int buckOffs;
        int marks;
        int draws;
        /** The bit d: drawn for the day d. The last day is 60 + 4 - 1, so that 64 bits hold all. */
        long days;

        Beast(int number, int kind) {
            this.number = number;
            this.kind = kind;
        }

        boolean canBeDrawn(int wantedKind, int day) {
            long thatDay = 1L << day;
            long near = thatDay | thatDay << 1 | thatDay >>> 1;
            return kind == wantedKind && (days & near) == 0L;
        }

        void noteDraw(int day) {
            days |= 1L << day;
            draws++;
        }

        /** A day drawn for twice leaves fewer bits than draws. */
        boolean hasAlwaysRested() {
            return Long.bitCount(days) == draws && (days & days << 1) == 0L;
        }

        /** Of beasts with trips: fractions are compared multiplied out. */
        boolean isAheadOf(Beast other) {
            int byBuckOffs = Integer.compare(buckOffs * other.trips, other.buckOffs * trips);
            if (byBuckOffs != 0) {
                return byBuckOffs > 0;
            }
            int byMarks = Integer.compare(marks * other.trips, other.marks * trips);
            if (byMarks != 0) {
                return byMarks > 0;
            }
            return number < other.number;
        }
    }

    private static final class Entry {
        final int rider;
        final int set;
        final int wish;
        int performance;
        /** Null until drawn, and of one who is turned out. */
        Beast beast;
        boolean isToRide;
        boolean isReRide;
        boolean hasOffer;
        boolean isCounting;
        int points;
        int money;

        Entry(int rider, int set, int wish) {
            this.rider = rider;
            this.set = set;
            this.wish = wish;
            performance = NONE;
            points = NONE;
        }

        boolean isPlaced() {
            return performance != NONE;
        }

        int beastNumber() {
            return beast == null ? NONE : beast.number;
        }

        void takeRide(boolean isGood, int riderMarks, int beastMarks) {
            isToRide = false;
            isCounting = isGood;
            points = isGood ? riderMarks + beastMarks : 0;
            hasOffer = isGood && beastMarks < FAIR_BEAST_MARKS && !isReRide;
            if (beast != null) {
                beast.trips++;
                beast.buckOffs += isGood ? 0 : 1;
                beast.marks += beastMarks;
            }
        }

        void loseScore() {
            points = NONE;
            isCounting = false;
        }
    }

    private static final class Rodeo {
        final int kind;
        final int mile;
        final int first;
        final int performances;
        final int places;
        final int added;
        final int fee;
        /** In the order in which they came. */
        final ArrayList<Entry> entries;
        /** The same ones by their riders, null of those who did not enter. */
        final Entry[] byRider;
        int state;
        int office;

        Rodeo(int kind, int mile, int first, int performances, int places, int added, int fee) {
            this.kind = kind;
            this.mile = mile;
            this.first = first;
            this.performances = performances;
            this.places = places;
            this.added = added;
            this.fee = fee;
            entries = new ArrayList<Entry>();
            byRider = new Entry[MAX_RIDERS];
            state = OPEN;
        }

        int dayOf(int performance) {
            return first + performance;
        }

        void addEntry(Entry entry) {
            if (entry.rider >= 0 && entry.rider < byRider.length) {
                byRider[entry.rider] = entry;
                entries.add(entry);
            }
        }

        Entry entryOf(int rider) {
            return rider >= 0 && rider < byRider.length ? byRider[rider] : null;
        }

        int countIn(int performance) {
            int count = 0;
            for (int i = 0; i < entries.size(); i++) {
                if (entries.get(i).performance == performance) {
                    count++;
                }
            }
            return count;
        }

        int countPlaced() {
            return entries.size() - countIn(NONE);
        }

        int pot() {
            return state == OPEN ? 0 : added + fee * countPlaced();
        }

        /** One who is turned out has nothing to ride and no offer. */
        boolean canBePaid() {
            for (int i = 0; i < entries.size(); i++) {
                Entry entry = entries.get(i);
                if (entry.isToRide || entry.hasOffer) {
                    return false;
                }
            }
            return state == DRAWN;
        }

        int countCounting() {
            int count = 0;
            for (int i = 0; i < entries.size(); i++) {
                if (entries.get(i).isCounting) {
                    count++;
                }
            }
            return count;
        }

        void payOut() {
            int pot = pot();
            int counting = countCounting();
            int ground = split(sharesOf(pot, counting, HUNDREDTHS.length), counting);
            int left = pot;
            for (int i = 0; i < entries.size(); i++) {
                Entry entry = entries.get(i);
                if (entry.isCounting) {
                    entry.money = placeMoney(pot, entry.points) + ground;
                    left -= entry.money;
                }
            }
            office = left;
            state = PAID;
        }

        int placeMoney(int pot, int points) {
            int better = 0;
            int like = 0;
            for (int i = 0; i < entries.size(); i++) {
                Entry entry = entries.get(i);
                if (entry.isCounting && entry.points > points) {
                    better++;
                } else if (entry.isCounting && entry.points == points) {
                    like++;
                }
            }
            return split(sharesOf(pot, better, better + like), like);
        }

        /** Each place is rounded down for itself, ahead of the sum. */
        int sharesOf(int pot, int from, int behind) {
            int sum = 0;
            for (int place = 0; place < HUNDREDTHS.length; place++) {
                if (place >= from && place < behind) {
                    sum += pot * HUNDREDTHS[place] / 100;
                }
            }
            return sum;
        }

        boolean isEven() {
            int sum = office;
            for (int i = 0; i < entries.size(); i++) {
                sum += entries.get(i).money;
            }
            return state != PAID || sum == pot();
        }
    }
}
