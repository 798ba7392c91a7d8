/** A city told as a text, and who is whose alibi in it: see the document's promises 1 to 70. */
public final class AlibiRota {
    public static final int NONE = -1;

    private static final int NO_SUCH = -2;
    private static final int BELOW_ZERO = -3;
    private static final int FAULTY = -4;
    private static final int TOO_LATE = -5;
    private static final int NOTHING = -6;
    private static final int BEYOND = -7;
    private static final int UNLIKE = -8;

    private static final int MOST_PEOPLE = 7;
    private static final int MOST_HOURS = 12;
    private static final int MOST_PLACES = 10;
    private static final int MOST_ACTS = 40;
    private static final int MOST_IMAGES = 3;
    private static final int MOST_SEED = 2000000000;
    private static final int MOST_DAYS = 20;
    private static final int IN_TEN = 10;

    /** The numbers of a city's first line, as they stand in it, and as count() names them. */
    private static final int PLACES = 0;
    private static final int HOURS = 1;
    private static final int SIGHT = 2;
    private static final int PACE = 3;
    private static final int FINE = 4;
    private static final int RING = 5;
    private static final int ODDS = 6;
    private static final int NUMBERS = 7;
    private static final int[] LOWEST = {2, 1, 0, 0, 0, 2, 0};
    private static final int[] HIGHEST = {10, 12, 9, 9, 99, 3, 10};

    private final Tape tape = new Tape();
    private final Slots slots = new Slots();
    private final Rotas rotas = new Rotas();
    private final Days days = new Days();
    private final City[] images = new City[MOST_IMAGES];
    private final boolean[] kept = new boolean[MOST_IMAGES];
    private City now = new City();
    /** A text is read into this one, so that a fault leaves the city as it was. */
    private City draft = new City();

    public AlibiRota() {
        for (int k = 0; k < MOST_IMAGES; k++) {
            images[k] = new City();
        }
    }

    // ---- the tape and the text (promises 2 to 5)

    public int feed(int a, int b, int c, int d, int e) {
        if (!tape.hasRoom()) {
            return NONE;
        }
        tape.append(a);
        tape.append(b);
        tape.append(c);
        tape.append(d);
        tape.append(e);
        return tape.length;
    }

    public int end(int n) {
        if (n < 0 || n > tape.length) {
            return NONE;
        }
        tape.length = n;
        return n;
    }

    public int city() {
        if (!tape.readInto(draft)) {
            return FAULTY;
        }
        City before = now;
        now = draft;
        draft = before;
        tape.length = 0;
        lookAnew();
        return now.lines;
    }

    public int fault(int what) {
        if (what == 0) {
            return tape.fault;
        }
        return what == 1 ? tape.faultPlace : NONE;
    }

    // ---- who sees whom, who swears to whom, gaps and fines (promises 6 to 20)

    public int at(int person, int hour) {
        if (!now.isPerson(person) || !now.isHour(hour)) {
            return NO_SUCH;
        }
        return now.placeOf(person, hour);
    }

    public int sees(int person, int other, int hour) {
        if (!now.isPerson(person) || !now.isPerson(other) || !now.isHour(hour)) {
            return NO_SUCH;
        }
        return now.seesIn(person, other, hour) ? 1 : 0;
    }

    public int sight(int person, int hour) {
        if (!now.isPerson(person) || !now.isHour(hour)) {
            return NO_SUCH;
        }
        return now.inSight(person, hour);
    }

    public int swears(int person) {
        return now.isPerson(person) ? now.oath[person] : NO_SUCH;
    }

    public int sworn(int person) {
        return now.isPerson(person) ? now.swearersOf(person) : NO_SUCH;
    }

    public int gaps(int person) {
        return now.isPerson(person) ? now.gapBits(person) : NO_SUCH;
    }

    public int alone(int hour) {
        return now.isHour(hour) ? now.aloneIn(hour) : NO_SUCH;
    }

    public int all() {
        return now.exists() ? now.gapsOfAll(now.allHours()) : NO_SUCH;
    }

    public int longest(int person) {
        if (!now.isPerson(person)) {
            return NO_SUCH;
        }
        int open = now.gapBits(person);
        int run = 0;
        int most = 0;
        for (int hour = 0; hour < now.hours(); hour++) {
            run = hasBit(open, hour) ? run + 1 : 0;
            most = Math.max(most, run);
        }
        return most;
    }

    public int fine(int person) {
        return now.isPerson(person) ? now.fineOf(person) : NO_SUCH;
    }

    public int worst() {
        if (!now.exists()) {
            return NO_SUCH;
        }
        int found = NONE;
        int greatest = 0;
        for (int person = 0; person < now.people; person++) {
            int owed = now.fineOf(person);
            if (owed > greatest) {
                greatest = owed;
                found = person;
            }
        }
        return found;
    }

    public int unsworn() {
        if (!now.exists()) {
            return NO_SUCH;
        }
        int found = 0;
        for (int person = 0; person < now.people; person++) {
            if (now.swearersOf(person) == 0) {
                found |= 1 << person;
            }
        }
        return found;
    }

    public int rings() {
        if (!now.exists()) {
            return NO_SUCH;
        }
        int many = 0;
        for (int person = 0; person < now.people; person++) {
            int members = now.ringOf(person);
            // A ring is counted once, at its least person.
            if (members != 0 && (members & ((1 << person) - 1)) == 0) {
                many++;
            }
        }
        return many;
    }

    public int ring(int person) {
        return now.isPerson(person) ? now.ringOf(person) : NO_SUCH;
    }

    public int chain(int person) {
        return now.isPerson(person) ? Integer.bitCount(now.chainFrom(person)) : NO_SUCH;
    }

    // ---- the rota of fewest gaps (promises 21 to 25)

    public int best() {
        return now.exists() ? surveyed().fewest : NO_SUCH;
    }

    public int rota(int person) {
        return now.isPerson(person) ? surveyed().fewestRow[person] : NO_SUCH;
    }

    public int ways() {
        return now.exists() ? surveyed().ofFewest : NO_SUCH;
    }

    public int fair() {
        return now.exists() ? surveyed().mildest : NO_SUCH;
    }

    public int clean() {
        return now.exists() ? surveyed().spotless : NO_SUCH;
    }

    // ---- trades, envy, friends, places (promises 26 to 36)

    public int trade() {
        if (!now.exists()) {
            return NO_SUCH;
        }
        int found = NONE;
        int fewest = now.gapsOfAll(now.allHours());
        for (int one = 0; one < now.people; one++) {
            for (int other = one + 1; other < now.people; other++) {
                int left = now.gapsIfTraded(one, other);
                if (left != NONE && left < fewest) {
                    fewest = left;
                    found = 10 * one + other;
                }
            }
        }
        return found;
    }

    public int envy() {
        if (!now.exists()) {
            return NO_SUCH;
        }
        int many = 0;
        for (int one = 0; one < now.people; one++) {
            for (int other = one + 1; other < now.people; other++) {
                if (now.envies(one, other) && now.envies(other, one)) {
                    many++;
                }
            }
        }
        return many;
    }

    public int often(int person, int other) {
        return now.isPair(person, other) ? now.hoursSeen(person, other) : NO_SUCH;
    }

    public int friend(int person) {
        if (!now.isPerson(person)) {
            return NO_SUCH;
        }
        int found = NONE;
        int most = NONE;
        for (int other = 0; other < now.people; other++) {
            if (other != person && now.hoursSeen(person, other) > most) {
                most = now.hoursSeen(person, other);
                found = other;
            }
        }
        return found;
    }

    public int witness(int place, int hour) {
        return now.isPlace(place) && now.isHour(hour) ? now.watchers(place, hour) : NO_SUCH;
    }

    public int dark(int hour) {
        if (!now.isHour(hour)) {
            return NO_SUCH;
        }
        int found = 0;
        for (int place = 0; place < now.places(); place++) {
            if (now.watchers(place, hour) == 0) {
                found |= 1 << place;
            }
        }
        return found;
    }

    public int crowd(int hour) {
        if (!now.isHour(hour)) {
            return NO_SUCH;
        }
        int found = NONE;
        int most = 0;
        for (int place = 0; place < now.places(); place++) {
            int here = now.manyIn(place, hour);
            if (here > most) {
                most = here;
                found = place;
            }
        }
        return found;
    }

    public int busiest() {
        if (!now.exists()) {
            return NO_SUCH;
        }
        int found = NONE;
        int most = 0;
        for (int hour = 0; hour < now.hours(); hour++) {
            int many = Integer.bitCount(now.aloneIn(hour));
            if (many > most) {
                most = many;
                found = hour;
            }
        }
        return found;
    }

    public int mutual() {
        if (!now.exists()) {
            return NO_SUCH;
        }
        int many = 0;
        for (int one = 0; one < now.people; one++) {
            int other = now.oath[one];
            if (other > one && other < now.people && now.oath[other] == one) {
                many++;
            }
        }
        return many;
    }

    public int homebody() {
        if (!now.exists()) {
            return NO_SUCH;
        }
        int found = NONE;
        int fewest = now.gapsOfAll(now.allHours());
        for (int person = 0; person < now.people; person++) {
            int left = now.gapsIfHome(person);
            if (left < fewest) {
                fewest = left;
                found = person;
            }
        }
        return found;
    }

    public int extra() {
        if (!now.exists()) {
            return NO_SUCH;
        }
        int found = NONE;
        int most = 0;
        for (int one = 0; one < now.people; one++) {
            for (int other = 0; other < now.people; other++) {
                int closes = Integer.bitCount(now.gapBits(other) & now.seenBits(one, other));
                if (one != other && closes > most) {
                    most = closes;
                    found = 10 * one + other;
                }
            }
        }
        return found;
    }

    // ---- days by which one sees another most (promises 37 to 39)

    public int tied(int person, int other) {
        if (!now.isPair(person, other)) {
            return NO_SUCH;
        }
        days.plan(now, person, other);
        return days.most();
    }

    public int ties(int person, int other, int hour) {
        if (!now.isPair(person, other) || !now.isHour(hour)) {
            return NO_SUCH;
        }
        days.plan(now, person, other);
        return days.firstDayAt(hour);
    }

    public int steps(int person, int other) {
        if (!now.isPair(person, other)) {
            return NO_SUCH;
        }
        days.plan(now, person, other);
        return days.fewestSteps();
    }

    // ---- deeds, and who guards against them (promises 40 to 45)

    public int deeds(int person, int place) {
        if (!now.isPerson(person) || !now.isPlace(place)) {
            return NO_SUCH;
        }
        return now.gapBits(person) & now.nearBits(person, place);
    }

    public int can(int place, int hour) {
        return now.isPlace(place) && now.isHour(hour) ? now.doers(place, hour) : NO_SUCH;
    }

    public int safe() {
        if (!now.exists()) {
            return NO_SUCH;
        }
        int found = 0;
        for (int place = 0; place < now.places(); place++) {
            if (!now.hasDoer(place)) {
                found |= 1 << place;
            }
        }
        return found;
    }

    public int guard(int person, int place) {
        if (!now.isPerson(person) || !now.isPlace(place)) {
            return NO_SUCH;
        }
        int open = now.gapBits(person) & now.nearBits(person, place);
        int found = 0;
        for (int other = 0; other < now.people; other++) {
            if (other != person && (open & ~now.seenBits(other, person)) == 0) {
                found |= 1 << other;
            }
        }
        return found;
    }

    public int guards(int person) {
        if (!now.isPerson(person)) {
            return NO_SUCH;
        }
        int set = now.leastGuards(person);
        return set == NONE ? NONE : Integer.bitCount(set);
    }

    public int guarded(int person) {
        return now.isPerson(person) ? now.leastGuards(person) : NO_SUCH;
    }

    // ---- who did it, whom to ask (promises 46 to 48)

    public int who(int slot) {
        int refused = refuseDeeds(slot);
        return refused != 0 ? refused : suspects(slot);
    }

    public int ask(int slot) {
        int refused = refuseDeeds(slot);
        return refused != 0 ? refused : bestAsked(slot);
    }

    public int leaves(int slot) {
        int refused = refuseDeeds(slot);
        if (refused != 0) {
            return refused;
        }
        int suspected = suspects(slot);
        int asked = bestAsked(slot);
        if (asked == NONE) {
            return Integer.bitCount(suspected);
        }
        return leftAtWorst(asked, suspected, slots.number(slot, 0));
    }

    // ---- oaths that are false (promises 49 to 51)

    public int lies(int slot) {
        int refused = refuseOaths(slot);
        if (refused != 0) {
            return refused;
        }
        int many = 0;
        for (int i = 0; i + 2 < slots.size(slot); i += 3) {
            if (!isTrueOath(slot, i)) {
                many++;
            }
        }
        return many;
    }

    public int liars(int slot) {
        int refused = refuseOaths(slot);
        if (refused != 0) {
            return refused;
        }
        int found = 0;
        for (int i = 0; i + 2 < slots.size(slot); i += 3) {
            if (!isTrueOath(slot, i)) {
                found |= 1 << (int) slots.number(slot, i);
            }
        }
        return found;
    }

    public int closed(int slot, int person) {
        if (!now.isPerson(person)) {
            return NO_SUCH;
        }
        int refused = refuseOaths(slot);
        if (refused != 0) {
            return refused;
        }
        int seen = 0;
        for (int i = 0; i + 2 < slots.size(slot); i += 3) {
            if (slots.number(slot, i + 1) == person && isTrueOath(slot, i)) {
                seen |= 1 << (int) slots.number(slot, i + 2);
            }
        }
        return Integer.bitCount(now.gapBits(person) & seen);
    }

    // ---- which rotas explain what was worn (promises 52 to 54)

    public int worn(int slot) {
        int refused = refuseWorn(slot);
        if (refused != 0) {
            return refused;
        }
        explain(slot);
        return rotas.fitting;
    }

    public int wore(int slot, int person) {
        if (!now.isPerson(person)) {
            return NO_SUCH;
        }
        int refused = refuseWorn(slot);
        if (refused != 0) {
            return refused;
        }
        explain(slot);
        return rotas.fittingRow[person];
    }

    public int surely(int slot, int person) {
        if (!now.isPerson(person)) {
            return NO_SUCH;
        }
        int refused = refuseWorn(slot);
        if (refused != 0) {
            return refused;
        }
        explain(slot);
        // If only one is ever sworn to, the first rota names him.
        return Integer.bitCount(rotas.fittingTargets[person]) == 1 ? rotas.fittingRow[person] : NONE;
    }

    // ---- laws, and fog (promises 55 to 59)

    public int law(int from, int to) {
        if (!now.isHour(from) || !now.isHour(to) || to < from) {
            return NO_SUCH;
        }
        int pardoned = (1 << (to + 1)) - (1 << from);
        return now.gapsOfAll(now.allHours() & ~pardoned);
    }

    public long chance(int person, int what) {
        if (!now.isPerson(person) || what < 0 || what > 1) {
            return NO_SUCH;
        }
        long above = 1;
        long below = 1;
        int clear = now.gapBits(person);
        int foggy = now.fogGapBits(person);
        for (int hour = 0; hour < now.hours(); hour++) {
            above *= IN_TEN - gapOdds(clear, foggy, hour);
            below *= IN_TEN;
        }
        long common = commonDivisor(above, below);
        if (common < 1) {
            return NO_SUCH;
        }
        return what == 0 ? above / common : below / common;
    }

    public int likely(int person) {
        if (!now.isPerson(person)) {
            return NO_SUCH;
        }
        int found = NONE;
        int most = 0;
        int clear = now.gapBits(person);
        int foggy = now.fogGapBits(person);
        for (int hour = 0; hour < now.hours(); hour++) {
            int odds = gapOdds(clear, foggy, hour);
            if (odds > most) {
                most = odds;
                found = hour;
            }
        }
        return found;
    }

    public int drawn(int seed, int what) {
        if (!now.exists() || seed < 0 || seed > MOST_SEED || what < 0 || what > 2) {
            return NO_SUCH;
        }
        int fog = now.fogFrom(seed);
        if (what == 0) {
            return fog;
        }
        int open = 0;
        int many = 0;
        for (int person = 0; person < now.people; person++) {
            int bits = now.gapBitsUnder(fog, person);
            many += Integer.bitCount(bits);
            if (bits != 0) {
                open |= 1 << person;
            }
        }
        return what == 1 ? open : many;
    }

    public int luck(int seed, int n, int person) {
        if (!now.isPerson(person) || seed < 0 || seed > MOST_SEED || n < 1 || n > MOST_DAYS) {
            return NO_SUCH;
        }
        int many = 0;
        for (int i = 0; i < n; i++) {
            if (now.gapBitsUnder(now.fogFrom(seed + i), person) == 0) {
                many++;
            }
        }
        return many;
    }

    // ---- acts, and what is told anew (promises 60 to 65)

    public int swear(int person, int other) {
        if (!now.isPerson(person) || other != NONE && !now.isPair(person, other)) {
            return NO_SUCH;
        }
        if (now.acts >= MOST_ACTS) {
            return TOO_LATE;
        }
        return now.swearAnew(person, other);
    }

    public int move(int person, int hour, int place) {
        if (!now.isPerson(person) || !now.isHour(hour) || !now.isPlace(place)) {
            return NO_SUCH;
        }
        if (now.acts >= MOST_ACTS) {
            return TOO_LATE;
        }
        int before = now.moveAnew(person, hour, place);
        lookAnew();
        return before;
    }

    public int undo() {
        if (!now.exists()) {
            return NO_SUCH;
        }
        if (now.acts == 0) {
            return TOO_LATE;
        }
        now.takeBack();
        lookAnew();
        return now.acts;
    }

    public int anew() {
        if (!now.exists()) {
            return NO_SUCH;
        }
        int many = now.acts;
        for (int i = 0; i < many; i++) {
            now.takeBack();
        }
        lookAnew();
        return many;
    }

    public int tell(int what, int n) {
        if (!now.exists() || what < 0 || what > RING - SIGHT) {
            return NO_SUCH;
        }
        int which = SIGHT + what;
        if (n < LOWEST[which] || n > HIGHEST[which]) {
            return NO_SUCH;
        }
        if (now.acts > 0) {
            return TOO_LATE;
        }
        int before = now.numbers[which];
        now.numbers[which] = n;
        lookAnew();
        return before;
    }

    public int count(int what) {
        if (what >= 0 && what < NUMBERS) {
            return now.numbers[what];
        }
        switch (what) {
            case 7:
                return now.people;
            case 8:
                return now.acts;
            case 9:
                return now.lines;
            case 10:
                return tape.length;
            case 11:
                return slots.manyRows();
            default:
                return NONE;
        }
    }

    // ---- images (promises 66 and 67)

    public int image(int k) {
        if (k < 0 || k >= MOST_IMAGES) {
            return NO_SUCH;
        }
        images[k].copyFrom(now);
        kept[k] = true;
        return 0;
    }

    public int back(int k) {
        if (k < 0 || k >= MOST_IMAGES) {
            return NO_SUCH;
        }
        if (!kept[k]) {
            return NOTHING;
        }
        now.copyFrom(images[k]);
        lookAnew();
        return 0;
    }

    // ---- slots (promises 68 to 70)

    public int row(int slot, int width, int n) {
        if (!slots.isSlot(slot) || width < 0 || width > Slots.WIDEST || n > Slots.LONGEST) {
            return NO_SUCH;
        }
        if (n < 0) {
            return BELOW_ZERO;
        }
        slots.lay(slot, width, n);
        return 0;
    }

    public int write(int slot, int i, long v) {
        if (!slots.isSlot(slot)) {
            return NO_SUCH;
        }
        if (!slots.hasRow(slot)) {
            return NOTHING;
        }
        if (i < 0 || i >= slots.size(slot)) {
            return BEYOND;
        }
        slots.put(slot, i, v);
        return 0;
    }

    public int paste(int slot, int i, int to, int k, int n) {
        if (!slots.isSlot(slot) || !slots.isSlot(to)) {
            return NO_SUCH;
        }
        if (!slots.hasRow(slot) || !slots.hasRow(to)) {
            return NOTHING;
        }
        if (!slots.areAlike(slot, to)) {
            return UNLIKE;
        }
        if (!slots.holds(slot, i, n) || !slots.holds(to, k, n)) {
            return BEYOND;
        }
        slots.copyOver(slot, i, to, k, n);
        return 0;
    }

    // ---- helpers of the face

    private static boolean hasBit(int bits, int i) {
        return (bits >> i & 1) != 0;
    }

    private static long commonDivisor(long a, long b) {
        long one = a;
        long other = b;
        // Euclid's steps on numbers up to 10 to the 12th are fewer than a hundred.
        for (int i = 0; i < 100 && other != 0; i++) {
            long rest = one % other;
            one = other;
            other = rest;
        }
        return one;
    }

    /** Whatever is made from places, sight and ring is out of date behind each change of them. */
    private void lookAnew() {
        now.look();
        rotas.isSurveyed = false;
    }

    private Rotas surveyed() {
        if (!rotas.isSurveyed) {
            rotas.survey(now);
        }
        return rotas;
    }

    /** In how many of ten an hour has a gap, by its gaps in clear air and in fog. */
    private int gapOdds(int clear, int foggy, int hour) {
        if (hasBit(clear, hour)) {
            return IN_TEN;
        }
        return hasBit(foggy, hour) ? now.numbers[ODDS] : 0;
    }

    /** 0 if a slot has a row of so many numbers each, else what is answered instead. */
    private int refuseRow(int slot, int each) {
        if (!slots.isSlot(slot) || !now.exists()) {
            return NO_SUCH;
        }
        if (!slots.hasRow(slot)) {
            return NOTHING;
        }
        return each < 1 || slots.size(slot) % each != 0 ? NO_SUCH : 0;
    }

    private int refuseDeeds(int slot) {
        int refused = refuseRow(slot, 2);
        if (refused != 0) {
            return refused;
        }
        for (int i = 0; i + 1 < slots.size(slot); i += 2) {
            if (!now.isHour(slots.number(slot, i)) || !now.isPlace(slots.number(slot, i + 1))) {
                return NO_SUCH;
            }
        }
        return 0;
    }

    private int refuseOaths(int slot) {
        int refused = refuseRow(slot, 3);
        if (refused != 0) {
            return refused;
        }
        for (int i = 0; i + 2 < slots.size(slot); i += 3) {
            if (!now.isPair(slots.number(slot, i), slots.number(slot, i + 1))
                    || !now.isHour(slots.number(slot, i + 2))) {
                return NO_SUCH;
            }
        }
        return 0;
    }

    private int refuseWorn(int slot) {
        int refused = refuseRow(slot, 3);
        if (refused != 0) {
            return refused;
        }
        for (int i = 0; i + 2 < slots.size(slot); i += 3) {
            long gap = slots.number(slot, i + 2);
            if (!now.isPerson(slots.number(slot, i)) || !now.isHour(slots.number(slot, i + 1))
                    || gap < 0 || gap > 1) {
                return NO_SUCH;
            }
        }
        return 0;
    }

    private int suspects(int slot) {
        int found = (1 << now.people) - 1;
        for (int i = 0; i + 1 < slots.size(slot); i += 2) {
            found &= now.doers((int) slots.number(slot, i + 1), (int) slots.number(slot, i));
        }
        return found;
    }

    /** The person whose answer leaves fewest suspects at worst, if fewer than there are. */
    private int bestAsked(int slot) {
        if (slots.size(slot) == 0) {
            return NONE;
        }
        int suspected = suspects(slot);
        int found = NONE;
        int fewest = Integer.bitCount(suspected);
        for (int person = 0; person < now.people; person++) {
            int left = leftAtWorst(person, suspected, slots.number(slot, 0));
            if (left < fewest) {
                fewest = left;
                found = person;
            }
        }
        return found;
    }

    private int leftAtWorst(int asked, int suspected, long hour) {
        int seen = Integer.bitCount(suspected & now.inSight(asked, (int) hour));
        return Math.max(seen, Integer.bitCount(suspected) - seen);
    }

    private boolean isTrueOath(int slot, int i) {
        return now.seesIn((int) slots.number(slot, i), (int) slots.number(slot, i + 1),
                (int) slots.number(slot, i + 2));
    }

    private void explain(int slot) {
        rotas.expectNothing();
        for (int i = 0; i + 2 < slots.size(slot); i += 3) {
            rotas.expect((int) slots.number(slot, i), (int) slots.number(slot, i + 1),
                    slots.number(slot, i + 2) == 1);
        }
        rotas.explain(now);
    }

    /** The bytes that were fed, and the reading of them as a city's text. */
    private static final class Tape {
        private static final int MOST_BYTES = 1200;
        private static final int FED_AT_ONCE = 20;
        private static final int TOO_MUCH = 1000000;

        private static final int END = 0;
        private static final int BLANK = 1;
        private static final int WORD = 2;
        private static final int NUMBER = 3;
        private static final int STOP = 4;
        private static final int NO_TOKEN = 5;

        private static final int MISPLACED = 1;
        private static final int OUT_OF_BOUNDS = 2;
        private static final int ONE_PERSON_MORE = 3;

        private final byte[] bytes = new byte[MOST_BYTES];
        private int length;
        /** Of the latest reading. */
        private int fault;
        private int faultPlace = NONE;
        /** The token that is looked at: its kind, its first byte, and the byte behind it. */
        private int kind;
        private int start;
        private int behind;
        private int taken;

        private boolean hasRoom() {
            return length <= MOST_BYTES - FED_AT_ONCE;
        }

        private void append(int four) {
            for (int shift = 24; shift >= 0 && length < MOST_BYTES; shift -= 8) {
                bytes[length] = (byte) (four >> shift);
                length++;
            }
        }

        /** Whether the whole tape could be read; if not, the fault is kept. */
        private boolean readInto(City into) {
            into.clear();
            fault = 0;
            faultPlace = NONE;
            behind = 0;
            toNextToken();
            for (int i = 0; i < MOST_BYTES && kind != END; i++) {
                if (!takeLine(into) || !takeStop()) {
                    return false;
                }
                into.lines++;
            }
            into.forgetStrangers();
            return true;
        }

        private boolean takeLine(City into) {
            if (into.lines == 0) {
                return takeCityLine(into);
            }
            if (isWord("wall")) {
                return takeWallLine(into);
            }
            if (isWord("person")) {
                return takePersonLine(into);
            }
            return takeErrandLine(into);
        }

        private boolean takeCityLine(City into) {
            if (!takeWord("city")) {
                return false;
            }
            for (int i = 0; i < NUMBERS; i++) {
                if (!takeWord(nameOf(i)) || !takeNumber(LOWEST[i], HIGHEST[i], NONE)) {
                    return false;
                }
                into.numbers[i] = taken;
            }
            return true;
        }

        private boolean takeWallLine(City into) {
            if (!takeWord("wall") || !takeNumber(0, into.places() - 2, NONE)) {
                return false;
            }
            into.walls |= 1 << taken;
            return true;
        }

        private boolean takePersonLine(City into) {
            if (into.people >= MOST_PEOPLE) {
                return notes(ONE_PERSON_MORE);
            }
            if (!takeWord("person") || !takeWord("at")
                    || !takeNumber(0, into.places() - 1, NONE)) {
                return false;
            }
            int home = taken;
            int oath = NONE;
            if (isWord("to")) {
                if (!takeWord("to") || !takeNumber(0, MOST_PEOPLE - 1, into.people)) {
                    return false;
                }
                oath = taken;
            }
            into.settle(home, oath);
            return true;
        }

        private boolean takeErrandLine(City into) {
            if (!takeWord("errand") || !takeNumber(0, into.people - 1, NONE)) {
                return false;
            }
            int person = taken;
            if (!takeWord("in") || !takeNumber(0, into.places() - 1, NONE)) {
                return false;
            }
            int place = taken;
            if (!takeWord("at") || !takeNumber(0, into.hours() - 1, NONE)) {
                return false;
            }
            into.send(person, taken, place);
            return true;
        }

        private static String nameOf(int i) {
            switch (i) {
                case PLACES:
                    return "places";
                case HOURS:
                    return "hours";
                case SIGHT:
                    return "sight";
                case PACE:
                    return "pace";
                case FINE:
                    return "fine";
                case RING:
                    return "ring";
                default:
                    return "odds";
            }
        }

        private boolean takeStop() {
            if (kind != STOP) {
                return notes(MISPLACED);
            }
            toNextToken();
            return true;
        }

        private boolean takeWord(String word) {
            if (!isWord(word)) {
                return notes(MISPLACED);
            }
            toNextToken();
            return true;
        }

        private boolean takeNumber(int low, int high, int except) {
            if (kind != NUMBER) {
                return notes(MISPLACED);
            }
            taken = numberLookedAt();
            if (taken < low || taken > high || taken == except) {
                return notes(OUT_OF_BOUNDS);
            }
            toNextToken();
            return true;
        }

        /** Keeps a fault at the token looked at; false, so that a reader can hand it on. */
        private boolean notes(int which) {
            fault = which;
            faultPlace = start;
            return false;
        }

        private boolean isWord(String word) {
            if (kind != WORD || behind - start != word.length()) {
                return false;
            }
            for (int i = 0; i < word.length(); i++) {
                if (bytes[start + i] != word.charAt(i)) {
                    return false;
                }
            }
            return true;
        }

        private int numberLookedAt() {
            int value = 0;
            for (int i = start; i < behind; i++) {
                // Held down, as a text may have hundreds of digits.
                value = Math.min(TOO_MUCH, value * 10 + (bytes[i] - '0'));
            }
            return value;
        }

        private void toNextToken() {
            start = behind;
            while (start < length && kindOf(bytes[start]) == BLANK) {
                start++;
            }
            behind = start;
            if (start >= length) {
                kind = END;
                return;
            }
            kind = kindOf(bytes[start]);
            behind++;
            if (kind != WORD && kind != NUMBER) {
                return;
            }
            while (behind < length && kindOf(bytes[behind]) == kind) {
                behind++;
            }
        }

        private static int kindOf(byte sign) {
            if (sign == ' ' || sign == '\n') {
                return BLANK;
            }
            if (sign >= 'a' && sign <= 'z') {
                return WORD;
            }
            if (sign >= '0' && sign <= '9') {
                return NUMBER;
            }
            return sign == ';' ? STOP : NO_TOKEN;
        }
    }

    /** A city as it is now, with the acts that made it so. Without lines there is none. */
    private static final class City {
        private final int[] numbers = new int[NUMBERS];
        private int lines;
        private int people;
        /** Bit p: a wall between place p and the next one. */
        private int walls;
        private final int[] home = new int[MOST_PEOPLE];
        private final int[] oath = new int[MOST_PEOPLE];
        private final int[] place = new int[MOST_PEOPLE * MOST_HOURS];
        /** Hours in which a person has an errand, told or moved, as bits. */
        private final int[] errands = new int[MOST_PEOPLE];
        /** Hours in which one person sees another, as bits; made by look(). */
        private final int[] seen = new int[MOST_PEOPLE * MOST_PEOPLE];
        private int acts;
        private final int[] actPerson = new int[MOST_ACTS];
        /** The hour of a move; NONE for an oath. */
        private final int[] actHour = new int[MOST_ACTS];
        private final int[] actBefore = new int[MOST_ACTS];
        private final int[] actErrands = new int[MOST_ACTS];

        private void clear() {
            for (int i = 0; i < NUMBERS; i++) {
                numbers[i] = 0;
            }
            lines = 0;
            people = 0;
            walls = 0;
            acts = 0;
        }

        private void copyFrom(City other) {
            System.arraycopy(other.numbers, 0, numbers, 0, NUMBERS);
            lines = other.lines;
            people = other.people;
            walls = other.walls;
            System.arraycopy(other.home, 0, home, 0, MOST_PEOPLE);
            System.arraycopy(other.oath, 0, oath, 0, MOST_PEOPLE);
            System.arraycopy(other.place, 0, place, 0, MOST_PEOPLE * MOST_HOURS);
            System.arraycopy(other.errands, 0, errands, 0, MOST_PEOPLE);
            acts = other.acts;
            System.arraycopy(other.actPerson, 0, actPerson, 0, MOST_ACTS);
            System.arraycopy(other.actHour, 0, actHour, 0, MOST_ACTS);
            System.arraycopy(other.actBefore, 0, actBefore, 0, MOST_ACTS);
            System.arraycopy(other.actErrands, 0, actErrands, 0, MOST_ACTS);
        }

        // -- how it is told

        private void settle(int where, int toWhom) {
            if (people >= MOST_PEOPLE) {
                return;
            }
            home[people] = where;
            oath[people] = toWhom;
            errands[people] = 0;
            for (int hour = 0; hour < MOST_HOURS; hour++) {
                place[people * MOST_HOURS + hour] = where;
            }
            people++;
        }

        private void send(int person, int hour, int where) {
            place[person * MOST_HOURS + hour] = where;
            errands[person] |= 1 << hour;
        }

        /** Only behind the text's end is it known who there is. */
        private void forgetStrangers() {
            for (int person = 0; person < people; person++) {
                if (oath[person] >= people) {
                    oath[person] = NONE;
                }
            }
        }

        // -- acts; the caller has asked whether there is room for one

        private int swearAnew(int person, int other) {
            int before = oath[person];
            keepAct(person, NONE, before);
            oath[person] = other;
            return before;
        }

        private int moveAnew(int person, int hour, int where) {
            int before = placeOf(person, hour);
            keepAct(person, hour, before);
            send(person, hour, where);
            return before;
        }

        private void keepAct(int person, int hour, int before) {
            if (acts >= MOST_ACTS) {
                return;
            }
            actPerson[acts] = person;
            actHour[acts] = hour;
            actBefore[acts] = before;
            actErrands[acts] = errands[person];
            acts++;
        }

        private void takeBack() {
            if (acts < 1) {
                return;
            }
            acts--;
            int person = actPerson[acts];
            int hour = actHour[acts];
            errands[person] = actErrands[acts];
            if (hour == NONE) {
                oath[person] = actBefore[acts];
            } else {
                place[person * MOST_HOURS + hour] = actBefore[acts];
            }
        }

        // -- what there is

        private boolean exists() {
            return lines > 0;
        }

        private boolean isPerson(long person) {
            return person >= 0 && person < people;
        }

        private boolean isPair(long person, long other) {
            return isPerson(person) && isPerson(other) && person != other;
        }

        private boolean isHour(long hour) {
            return hour >= 0 && hour < hours();
        }

        private boolean isPlace(long where) {
            return where >= 0 && where < places();
        }

        private int places() {
            return numbers[PLACES];
        }

        private int hours() {
            return numbers[HOURS];
        }

        private int allHours() {
            return (1 << hours()) - 1;
        }

        private int placeOf(int person, int hour) {
            return place[person * MOST_HOURS + hour];
        }

        // -- who sees whom

        private boolean reaches(int from, int to) {
            int low = Math.min(from, to);
            int high = Math.max(from, to);
            int between = (1 << high) - (1 << low);
            return high - low <= numbers[SIGHT] && (walls & between) == 0;
        }

        /** Makes the table of who sees whom, which all questions about gaps are asked of. */
        private void look() {
            for (int one = 0; one < people; one++) {
                for (int other = 0; other < people; other++) {
                    int bits = 0;
                    for (int hour = 0; hour < hours(); hour++) {
                        if (reaches(placeOf(one, hour), placeOf(other, hour))) {
                            bits |= 1 << hour;
                        }
                    }
                    seen[one * MOST_PEOPLE + other] = bits;
                }
            }
        }

        private int seenBits(int person, int other) {
            return seen[person * MOST_PEOPLE + other];
        }

        private boolean seesIn(int person, int other, int hour) {
            return hasBit(seenBits(person, other), hour);
        }

        private int hoursSeen(int person, int other) {
            return Integer.bitCount(seenBits(person, other));
        }

        /** Whom a person sees in an hour, himself aside, as bits. */
        private int inSight(int person, int hour) {
            int found = 0;
            for (int other = 0; other < people; other++) {
                if (other != person && seesIn(person, other, hour)) {
                    found |= 1 << other;
                }
            }
            return found;
        }

        private int watchers(int where, int hour) {
            int found = 0;
            for (int person = 0; person < people; person++) {
                if (reaches(placeOf(person, hour), where)) {
                    found |= 1 << person;
                }
            }
            return found;
        }

        private int manyIn(int where, int hour) {
            int many = 0;
            for (int person = 0; person < people; person++) {
                if (placeOf(person, hour) == where) {
                    many++;
                }
            }
            return many;
        }

        // -- gaps, in clear air and in fog

        private int gapBits(int person) {
            int open = allHours();
            for (int other = 0; other < people; other++) {
                if (oath[other] == person) {
                    open &= ~seenBits(other, person);
                }
            }
            return open;
        }

        private int fogGapBits(int person) {
            int open = allHours();
            for (int other = 0; other < people; other++) {
                for (int hour = 0; hour < hours(); hour++) {
                    if (oath[other] == person && placeOf(other, hour) == placeOf(person, hour)) {
                        open &= ~(1 << hour);
                    }
                }
            }
            return open;
        }

        private int gapBitsUnder(int fog, int person) {
            return gapBits(person) & ~fog | fogGapBits(person) & fog;
        }

        private int fogFrom(int seed) {
            long x = seed;
            int fog = 0;
            for (int hour = 0; hour < hours(); hour++) {
                x = (1103515245L * x + 12345L) % 2147483648L;
                if (x / 65536L % 10L < numbers[ODDS]) {
                    fog |= 1 << hour;
                }
            }
            return fog;
        }

        private int aloneIn(int hour) {
            int found = 0;
            for (int person = 0; person < people; person++) {
                if (hasBit(gapBits(person), hour)) {
                    found |= 1 << person;
                }
            }
            return found;
        }

        /** Gaps of all persons, of those hours alone that are asked of. */
        private int gapsOfAll(int asked) {
            int many = 0;
            for (int person = 0; person < people; person++) {
                many += Integer.bitCount(gapBits(person) & asked);
            }
            return many;
        }

        private int fineOf(int person) {
            int open = gapBits(person);
            int run = 0;
            int owed = 0;
            for (int hour = 0; hour < hours(); hour++) {
                run = hasBit(open, hour) ? run + 1 : 0;
                owed += run * numbers[FINE];
            }
            return owed;
        }

        /** Gaps of all if two change over; NONE if one would swear to himself so. */
        private int gapsIfTraded(int one, int other) {
            if (oath[one] == other || oath[other] == one) {
                return NONE;
            }
            swapOaths(one, other);
            int left = gapsOfAll(allHours());
            swapOaths(one, other);
            return left;
        }

        private void swapOaths(int one, int other) {
            int before = oath[one];
            oath[one] = oath[other];
            oath[other] = before;
        }

        /** Gaps of all if a person were at home in all hours. */
        private int gapsIfHome(int homebody) {
            int many = 0;
            for (int person = 0; person < people; person++) {
                int open = allHours();
                for (int other = 0; other < people; other++) {
                    if (oath[other] == person) {
                        open &= ~seenBitsIfHome(other, person, homebody);
                    }
                }
                many += Integer.bitCount(open);
            }
            return many;
        }

        private int seenBitsIfHome(int person, int other, int homebody) {
            if (person != homebody && other != homebody) {
                return seenBits(person, other);
            }
            // Sight goes both ways, so the one at home may stand for either.
            int away = person == homebody ? other : person;
            int bits = 0;
            for (int hour = 0; hour < hours(); hour++) {
                if (reaches(home[homebody], placeOf(away, hour))) {
                    bits |= 1 << hour;
                }
            }
            return bits;
        }

        // -- oaths

        private int swearersOf(int person) {
            int found = 0;
            for (int other = 0; other < people; other++) {
                if (oath[other] == person) {
                    found |= 1 << other;
                }
            }
            return found;
        }

        /** Those whom oaths lead to from a person on, he too, as bits. */
        private int chainFrom(int person) {
            int met = 0;
            int one = person;
            for (int i = 0; i < people && isPerson(one) && !hasBit(met, one); i++) {
                met |= 1 << one;
                one = oath[one];
            }
            return met;
        }

        /** A person is in a ring if oaths lead back to him; the ring is all that they lead to. */
        private int ringOf(int person) {
            int one = oath[person];
            for (int i = 0; i < people && isPerson(one) && one != person; i++) {
                one = oath[one];
            }
            return one == person ? chainFrom(person) : 0;
        }

        /** Whether one sees whom the other one swears to more often than whom he does. */
        private boolean envies(int one, int other) {
            int own = oath[one];
            int others = oath[other];
            if (own == NONE || others == NONE || own == other || others == one) {
                return false;
            }
            return hoursSeen(one, others) > hoursSeen(one, own);
        }

        // -- deeds

        /** Hours in which a person is no more than pace off from a place, as bits. */
        private int nearBits(int person, int where) {
            int bits = 0;
            for (int hour = 0; hour < hours(); hour++) {
                if (Math.abs(placeOf(person, hour) - where) <= numbers[PACE]) {
                    bits |= 1 << hour;
                }
            }
            return bits;
        }

        private int doers(int where, int hour) {
            int found = 0;
            for (int person = 0; person < people; person++) {
                if (hasBit(gapBits(person) & nearBits(person, where), hour)) {
                    found |= 1 << person;
                }
            }
            return found;
        }

        private boolean hasDoer(int where) {
            for (int person = 0; person < people; person++) {
                if ((gapBits(person) & nearBits(person, where)) != 0) {
                    return true;
                }
            }
            return false;
        }

        /** The least set of fewest others whose oaths would close all gaps; NONE: all do not. */
        private int leastGuards(int person) {
            int open = gapBits(person);
            int found = NONE;
            for (int set = 0; set < 1 << people; set++) {
                if (!hasBit(set, person) && (open & ~seenByAny(set, person)) == 0
                        && (found == NONE || Integer.bitCount(set) < Integer.bitCount(found))) {
                    found = set;
                }
            }
            return found;
        }

        private int seenByAny(int set, int person) {
            int bits = 0;
            for (int other = 0; other < people; other++) {
                if (hasBit(set, other)) {
                    bits |= seenBits(other, person);
                }
            }
            return bits;
        }
    }

    /** Goes through the rotas of a city, the least row first. */
    private static final class Rotas {
        /** Far above what seven persons need. */
        private static final int MOST_TRIES = 1000000;

        private int people;
        private int ring;
        private boolean isBegun;
        private int taken;
        private final int[] row = new int[MOST_PEOPLE];
        /** To whom each person may swear, as bits. */
        private final int[] allowed = new int[MOST_PEOPLE];
        /** Hours in which a person must have a gap, and must have none, as bits. */
        private final int[] withGap = new int[MOST_PEOPLE];
        private final int[] withoutGap = new int[MOST_PEOPLE];
        private final int[] missed = new int[MOST_PEOPLE * MOST_PEOPLE];
        /** What survey() found. */
        private boolean isSurveyed;
        private int fewest;
        private int ofFewest;
        private int mildest;
        private int spotless;
        private final int[] fewestRow = new int[MOST_PEOPLE];
        /** What explain() found. */
        private int fitting;
        private final int[] fittingRow = new int[MOST_PEOPLE];
        private final int[] fittingTargets = new int[MOST_PEOPLE];

        private void survey(City city) {
            expectNothing();
            begin(city);
            countMissed(city);
            fewest = NONE;
            ofFewest = 0;
            mildest = NONE;
            spotless = 0;
            for (int i = 0; i < MOST_PEOPLE; i++) {
                fewestRow[i] = NONE;
            }
            for (int i = 0; i < MOST_TRIES && goesOn(); i++) {
                weigh();
            }
            isSurveyed = true;
        }

        private void countMissed(City city) {
            for (int one = 0; one < people; one++) {
                for (int other = 0; other < people; other++) {
                    missed[one * MOST_PEOPLE + other] = city.hours() - city.hoursSeen(one, other);
                }
            }
        }

        private void weigh() {
            int together = 0;
            int greatest = 0;
            for (int person = 0; person < people; person++) {
                int many = missed[person * MOST_PEOPLE + row[person]];
                together += many;
                greatest = Math.max(greatest, many);
            }
            if (together == 0) {
                spotless++;
            }
            if (mildest == NONE || greatest < mildest) {
                mildest = greatest;
            }
            if (fewest == NONE || together < fewest) {
                fewest = together;
                ofFewest = 0;
                System.arraycopy(row, 0, fewestRow, 0, people);
            }
            if (together == fewest) {
                ofFewest++;
            }
        }

        private void expectNothing() {
            for (int i = 0; i < MOST_PEOPLE; i++) {
                withGap[i] = 0;
                withoutGap[i] = 0;
            }
        }

        private void expect(int person, int hour, boolean gap) {
            if (gap) {
                withGap[person] |= 1 << hour;
            } else {
                withoutGap[person] |= 1 << hour;
            }
        }

        private void explain(City city) {
            begin(city);
            fitting = 0;
            for (int i = 0; i < MOST_PEOPLE; i++) {
                fittingRow[i] = NONE;
                fittingTargets[i] = 0;
            }
            for (int i = 0; i < MOST_TRIES && goesOn(); i++) {
                if (fitting == 0) {
                    System.arraycopy(row, 0, fittingRow, 0, people);
                }
                fitting++;
                for (int person = 0; person < people; person++) {
                    fittingTargets[person] |= 1 << row[person];
                }
            }
        }

        private void begin(City city) {
            people = city.people;
            ring = city.numbers[RING];
            isBegun = false;
            taken = 0;
            for (int person = 0; person < people; person++) {
                row[person] = NONE;
                allowed[person] = 0;
                for (int other = 0; other < people; other++) {
                    if (other != person && isAsExpected(city.seenBits(person, other), other)) {
                        allowed[person] |= 1 << other;
                    }
                }
            }
        }

        /** By a rota one alone swears to each, so what that one sees tells all his gaps. */
        private boolean isAsExpected(int seen, int person) {
            return (withGap[person] & seen) == 0 && (withoutGap[person] & ~seen) == 0;
        }

        /** Whether there is a next rota; then it is the row. */
        private boolean goesOn() {
            int person = isBegun ? people - 1 : 0;
            isBegun = true;
            for (int i = 0; i < MOST_TRIES && person >= 0 && person < people; i++) {
                person = advances(person) ? person + 1 : person - 1;
            }
            return people > 0 && person == people;
        }

        /** Gives a person the next one to swear to; without one he has nobody again. */
        private boolean advances(int person) {
            int before = row[person];
            if (before != NONE) {
                taken &= ~(1 << before);
            }
            for (int other = before + 1; other < people; other++) {
                if (fits(person, other)) {
                    row[person] = other;
                    taken |= 1 << other;
                    return true;
                }
            }
            row[person] = NONE;
            return false;
        }

        private boolean fits(int person, int other) {
            if (!hasBit(allowed[person], other) || hasBit(taken, other)) {
                return false;
            }
            // Nobody swears to himself, so pairs are the only rings that can be too small.
            return ring <= 2 || other > person || row[other] != person;
        }
    }

    /** The days of a person by which he sees another one in most hours. */
    private static final class Days {
        private int hours;
        private int places;
        private int pace;
        /** By hour and place: whether he may be there, and whether he then sees the other one. */
        private final boolean[] isOpen = new boolean[MOST_HOURS * MOST_PLACES];
        private final int[] seenThere = new int[MOST_HOURS * MOST_PLACES];
        /** From an hour and place on: most hours seen (NONE: no day), and fewest steps of these. */
        private final int[] hoursFrom = new int[MOST_HOURS * MOST_PLACES];
        private final int[] stepsFrom = new int[MOST_HOURS * MOST_PLACES];

        private void plan(City city, int person, int other) {
            hours = city.hours();
            places = city.places();
            pace = city.numbers[PACE];
            // The last hour comes first, as each hour's days go on by those of the next.
            for (int hour = hours - 1; hour >= 0; hour--) {
                for (int place = 0; place < places; place++) {
                    int here = hour * MOST_PLACES + place;
                    isOpen[here] = !hasBit(city.errands[person], hour)
                            || city.placeOf(person, hour) == place;
                    seenThere[here] = city.reaches(place, city.placeOf(other, hour)) ? 1 : 0;
                    planFrom(hour, place);
                }
            }
        }

        private void planFrom(int hour, int place) {
            int here = hour * MOST_PLACES + place;
            hoursFrom[here] = NONE;
            stepsFrom[here] = 0;
            if (!isOpen[here]) {
                return;
            }
            if (hour == hours - 1) {
                hoursFrom[here] = seenThere[here];
                return;
            }
            for (int next = 0; next < places; next++) {
                int there = (hour + 1) * MOST_PLACES + next;
                int way = Math.abs(next - place);
                if (way <= pace && hoursFrom[there] != NONE) {
                    keepBetter(here, seenThere[here] + hoursFrom[there], way + stepsFrom[there]);
                }
            }
        }

        private void keepBetter(int here, int many, int way) {
            if (many > hoursFrom[here] || many == hoursFrom[here] && way < stepsFrom[here]) {
                hoursFrom[here] = many;
                stepsFrom[here] = way;
            }
        }

        private int most() {
            int found = NONE;
            for (int place = 0; place < places; place++) {
                found = Math.max(found, hoursFrom[place]);
            }
            return found;
        }

        private int fewestSteps() {
            int most = most();
            int found = NONE;
            for (int place = 0; place < places && most != NONE; place++) {
                if (hoursFrom[place] == most && (found == NONE || stepsFrom[place] < found)) {
                    found = stepsFrom[place];
                }
            }
            return found;
        }

        /** The place in an hour by the least row of places. */
        private int firstDayAt(int asked) {
            int due = most();
            if (due == NONE) {
                return NONE;
            }
            int place = firstFrom(0, due, 0, places);
            for (int hour = 0; hour < asked && place != NONE; hour++) {
                due -= seenThere[hour * MOST_PLACES + place];
                place = firstFrom(hour + 1, due, place, pace);
            }
            return place;
        }

        private int firstFrom(int hour, int due, int before, int reach) {
            for (int place = 0; place < places; place++) {
                if (Math.abs(place - before) <= reach
                        && hoursFrom[hour * MOST_PLACES + place] == due) {
                    return place;
                }
            }
            return NONE;
        }
    }

    /** Four rows of numbers, each with a width of its own, or nothing. */
    private static final class Slots {
        private static final int MANY = 4;
        private static final int LONGEST = 60;
        private static final int WIDEST = 3;

        private final boolean[] isLaid = new boolean[MANY];
        private final int[] widths = new int[MANY];
        private final int[] sizes = new int[MANY];
        private final long[] cells = new long[MANY * LONGEST];

        private boolean isSlot(int slot) {
            return slot >= 0 && slot < MANY;
        }

        private boolean hasRow(int slot) {
            return isLaid[slot];
        }

        private int size(int slot) {
            return sizes[slot];
        }

        private long number(int slot, int i) {
            return cells[slot * LONGEST + i];
        }

        private int manyRows() {
            int many = 0;
            for (int slot = 0; slot < MANY; slot++) {
                if (isLaid[slot]) {
                    many++;
                }
            }
            return many;
        }

        private void lay(int slot, int width, int n) {
            isLaid[slot] = true;
            widths[slot] = width;
            sizes[slot] = n;
            for (int i = 0; i < n; i++) {
                cells[slot * LONGEST + i] = 0;
            }
        }

        private void put(int slot, int i, long v) {
            cells[slot * LONGEST + i] = cut(v, widths[slot]);
        }

        private static long cut(long v, int width) {
            switch (width) {
                case 0:
                    return (byte) v;
                case 1:
                    return (short) v;
                case 2:
                    return (int) v;
                default:
                    return v;
            }
        }

        private boolean areAlike(int slot, int other) {
            return widths[slot] == widths[other];
        }

        /** Whether n numbers from one on are within a row. */
        private boolean holds(int slot, int i, int n) {
            return i >= 0 && n >= 0 && i <= sizes[slot] - n;
        }

        private void copyOver(int slot, int i, int to, int k, int n) {
            System.arraycopy(cells, slot * LONGEST + i, cells, to * LONGEST + k, n);
        }
    }
}
