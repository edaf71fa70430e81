/** People who kneel two by two on prayer mats, and the quarrels between them. */
public final class PrayerMatsFace {

    private static final int NONE = -9;

    private static final int NOBODY = -1;
    private static final int OTHER = -2;
    private static final int STATE = -3;
    private static final int BELOW = -4;
    private static final int ROOM = -6;
    private static final int REFUSAL_NUMBERS = 6;
    private static final int INT_REFUSAL = 1000000000;
    private static final long LONG_REFUSAL = 4000000000000000000L;

    private static final int MOST_PEOPLE = 6;
    private static final int KINDS = 6;
    private static final int FIGURES = 10;
    private static final int HOURS = 5;
    private static final int ALL_HOURS = 31;
    private static final int MOST_QUARREL = 99;
    private static final int MOST_DAY = 999;
    private static final int MOST_DAYS_AT_ONCE = 60;
    private static final int MOST_DAYS_IN_MIND = 99;
    private static final int MOST_LETTERS = 96;
    private static final int MOST_LETTER = 255;
    private static final int MOST_IN_ROW = 12;
    private static final int MOST_BACK = 8;
    private static final int MOST_YEARS = 20;
    private static final int MOST_DAYS_BY_CHANCE = 8;
    private static final int LEAST_ODDS = 2;
    private static final int MOST_ODDS = 20;
    private static final int LIKES_SHIFT = 1000;

    private final Meeting now;
    private final Meeting draft;
    private final Meeting pictured;
    private boolean hasImage;
    private final Kneeling kneeling;
    private final Standing standing;
    private final Mind mind;
    private final Pairs pairs;
    private final Lots lotsDrawn;
    private final Chance chance;
    private final Quarter text;
    private final Row told;
    private final Past past;
    private final int[] refusals;

    public PrayerMatsFace() {
        now = new Meeting();
        draft = new Meeting();
        pictured = new Meeting();
        kneeling = new Kneeling();
        standing = new Standing(now);
        mind = new Mind(now, draft, kneeling);
        pairs = new Pairs(now, draft, kneeling);
        lotsDrawn = new Lots(now, draft, kneeling);
        chance = new Chance(now, kneeling);
        text = new Quarter(kneeling);
        told = new Row();
        past = new Past();
        refusals = new int[REFUSAL_NUMBERS + 1];
    }

    public int feed(int letter) {
        if (letter < 0) return refused(BELOW);
        if (letter > MOST_LETTER || text.isFull()) return refused(ROOM);
        return text.add(letter);
    }

    public int quarter() {
        draft.copyFrom(now);
        int answer = text.readInto(draft);
        text.forget();
        if (answer > 0) {
            now.copyFrom(draft);
            past.forget();
        }
        return answer;
    }

    public int personOf(int person, int what) {
        if (!now.has(person)) return refused(NOBODY);
        switch (what) {
            case 0: return now.kindOf(person);
            case 1: return now.figureOf(person);
            case 2: return now.hoursOf(person);
            case 3: return now.mateOf(person);
            case 4: return now.softOf(person);
            case 5: return now.soreOf(person);
            case 6: return now.charmOf(person);
            default: return refused(OTHER);
        }
    }

    public int between(int one, int other, int what) {
        if (!now.areTwo(one, other)) return refused(NOBODY);
        switch (what) {
            case 0: return now.quarrel(one, other);
            case 1: return now.likes(one, other) + LIKES_SHIFT;
            default: return refused(OTHER);
        }
    }

    public int person(int kind, int figure, int hours) {
        if (kind < 0 || kind >= KINDS) return refused(OTHER);
        if (figure < 0 || hours < 0) return refused(BELOW);
        if (figure >= FIGURES || hours > ALL_HOURS || now.isFull()) return refused(ROOM);
        past.forget();
        return now.addPerson(kind, figure, hours);
    }

    public int comes(int person, int hours) {
        if (!now.has(person)) return refused(NOBODY);
        if (hours < 0) return refused(BELOW);
        if (hours > ALL_HOURS) return refused(ROOM);
        past.keep(now);
        int before = now.hoursOf(person);
        now.setHours(person, hours);
        return before;
    }

    public int quarrels(int one, int other, int v) {
        if (!now.areTwo(one, other)) return refused(NOBODY);
        if (v < 0) return refused(BELOW);
        if (v > MOST_QUARREL) return refused(ROOM);
        past.keep(now);
        int before = now.quarrel(one, other);
        now.setQuarrel(one, other, v);
        return before;
    }

    public int joins(int one, int other) {
        if (!now.areTwo(one, other)) return refused(NOBODY);
        past.keep(now);
        now.joinOrPart(one, other);
        return now.fullMats();
    }

    public int days(int n) {
        if (n < 1) return refused(BELOW);
        if (n > MOST_DAYS_AT_ONCE || now.day() + n > MOST_DAY) return refused(ROOM);
        past.keep(now);
        now.live(n, kneeling);
        return now.allQuarrels();
    }

    public int back() {
        if (past.isEmpty()) return refused(STATE);
        past.takeBack(now);
        return past.number();
    }

    public int behind(int one, int other, int n) {
        if (!now.areTwo(one, other)) return refused(NOBODY);
        if (n < 0) return refused(BELOW);
        if (n > MOST_DAYS_IN_MIND) return refused(ROOM);
        return mind.quarrelBehind(one, other, n);
    }

    public int all(int n, int what) {
        if (n < 0) return refused(BELOW);
        if (n > MOST_DAYS_IN_MIND) return refused(ROOM);
        switch (what) {
            case 0: return mind.allQuarrelsBehind(n);
            case 1: return mind.twosWithoutBehind(n);
            case 2: return mind.atLawBehind(n);
            default: return refused(OTHER);
        }
    }

    public int mended(int one, int other) {
        if (!now.areTwo(one, other)) return refused(NOBODY);
        return mind.firstMended(one, other);
    }

    public int never() {
        return mind.matsNeverMended();
    }

    public int turn(int one, int other) {
        if (!now.areTwo(one, other)) return INT_REFUSAL - refused(NOBODY);
        return mind.turnOf(one, other);
    }

    public int leaves(int what) {
        switch (what) {
            case 0: return standing.firstLeaving();
            case 1: return standing.howManyLeave();
            case 2: return standing.thoseRid();
            default: return refused(OTHER);
        }
    }

    public int pairings(int person) {
        if (person != -1 && !now.has(person)) return refused(NOBODY);
        return person == -1 ? pairs.howManySteady() : pairs.mateInFirstSteady(person);
    }

    public int bestPairing(int n, int person) {
        if (person != -1 && !now.has(person)) return refused(NOBODY);
        if (n < 0) return refused(BELOW);
        if (n > MOST_DAYS_IN_MIND) return refused(ROOM);
        return person == -1 ? pairs.leastQuarrels(n) : pairs.mateInBest(n, person);
    }

    public int soonest(int one, int other) {
        if (!now.areTwo(one, other)) return refused(NOBODY);
        return mind.firstMendedOnOneMat(one, other);
    }

    public int mateFor(int person, int what) {
        if (!now.has(person)) return refused(NOBODY);
        switch (what) {
            case 0: return standing.mostLikedBy(person);
            case 1: return standing.whoWouldHave(person);
            default: return refused(OTHER);
        }
    }

    public int hoursFor(int person, int what) {
        if (!now.has(person)) return refused(NOBODY);
        switch (what) {
            case 0: return mind.bestHours(person);
            case 1: return mind.mendedByHours(person, mind.bestHours(person));
            default: return refused(OTHER);
        }
    }

    public int swap() {
        return standing.bestSwap();
    }

    public int glad(int person) {
        if (!now.has(person)) return refused(NOBODY);
        int mate = now.mateOf(person);
        return mate == NONE ? NONE : now.likes(person, mate) + LIKES_SHIFT;
    }

    public int who(int one, int other, int what) {
        if (!now.areTwo(one, other)) return refused(NOBODY);
        switch (what) {
            case 0: return mind.kindsThatFit(one, other, told);
            case 1: return mind.figuresThatFit(one, other, told);
            case 2: return Integer.bitCount(mind.hoursThatFit(one, other, told));
            case 3: return lowestBit(mind.hoursThatFit(one, other, told));
            default: return refused(OTHER);
        }
    }

    public int ways(int one, int other) {
        if (!now.areTwo(one, other)) return refused(NOBODY);
        return standing.firstSettledWays(one, other);
    }

    public long away(int person, int other, int v, int n, int t, int part) {
        if (!now.areTwo(person, other)) return LONG_REFUSAL - refused(NOBODY);
        if (v < 0 || n < 0 || t < LEAST_ODDS) return LONG_REFUSAL - refused(BELOW);
        boolean above = v > MOST_QUARREL || n > MOST_DAYS_BY_CHANCE || t > MOST_ODDS;
        if (above) return LONG_REFUSAL - refused(ROOM);
        if (part < 0 || part > 1) return LONG_REFUSAL - refused(OTHER);
        chance.weigh(person, other, n, t);
        return inLowestTerms(chance.weightUpTo(v), chance.allWeight(), part);
    }

    public int fullest(int what) {
        switch (what) {
            case 0: return standing.fullestHour();
            case 1: return now.howManyComeAt(standing.fullestHour());
            default: return refused(OTHER);
        }
    }

    public int charmer() {
        return standing.mostCharming();
    }

    public int friends() {
        return standing.howManyFriends();
    }

    public int chain(int person) {
        if (!now.has(person)) return refused(NOBODY);
        return standing.chainFrom(person);
    }

    public int lonely() {
        return standing.thoseLonely();
    }

    public int spread() {
        return standing.greatestLessLeast();
    }

    public long mean(int part) {
        if (part < 0 || part > 1) return LONG_REFUSAL - refused(OTHER);
        return inLowestTerms(now.allQuarrels(), now.howManyTwos(), part);
    }

    public int enemy(int person) {
        if (!now.has(person)) return refused(NOBODY);
        return standing.worstFor(person);
    }

    public int peace() {
        return mind.firstPeace();
    }

    public int helps(int person, int hour, int n) {
        if (!now.has(person) || hour < 0 || hour >= HOURS) return INT_REFUSAL - refused(NOBODY);
        if (n < 0) return INT_REFUSAL - refused(BELOW);
        if (n > MOST_DAYS_IN_MIND) return INT_REFUSAL - refused(ROOM);
        return mind.lessByHour(person, hour, n);
    }

    public int doubled() {
        return mind.bestHourTwice();
    }

    public int row(int v) {
        if (v < 0) return refused(BELOW);
        if (v > MOST_QUARREL || told.isFull()) return refused(ROOM);
        return told.add(v);
    }

    public int judge(int person) {
        if (!now.has(person)) return refused(NOBODY);
        int answer = standing.firstNotSo(person, told);
        told.forget();
        return answer;
    }

    public int clear() {
        int had = told.number();
        told.forget();
        return had;
    }

    public int lots(int n, int z, int what) {
        if (n < 1) return refused(BELOW);
        if (n > MOST_YEARS) return refused(ROOM);
        if (what < 0 || what > 1) return refused(OTHER);
        lotsDrawn.run(n, z);
        return what == 0 ? lotsDrawn.quarrelsTogether() : lotsDrawn.twosWithout();
    }

    public int image() {
        pictured.copyFrom(now);
        hasImage = true;
        return now.day();
    }

    public int restore() {
        if (!hasImage) return refused(STATE);
        now.copyFrom(pictured);
        past.forget();
        return now.day();
    }

    public int count(int what) {
        switch (what) {
            case 0: return now.people();
            case 1: return now.day();
            case 2: return now.fullMats();
            case 3: return now.allQuarrels();
            case 4: return standing.allComings();
            case 5: return text.number();
            case 6: return told.number();
            case 7: return past.number();
            case 11: case 12: case 13: case 14: case 15: case 16: return cell(refusals, what - 10);
            default: return NONE;
        }
    }

    private int refused(int number) {
        setCell(refusals, -number, cell(refusals, -number) + 1);
        return number;
    }

    // All rows are read and written through these two, so that no index is used unseen.
    private static int cell(int[] cells, int place) {
        return place >= 0 && place < cells.length ? cells[place] : 0;
    }

    private static void setCell(int[] cells, int place, int value) {
        if (place >= 0 && place < cells.length) cells[place] = value;
    }

    private static boolean hasBit(int bits, int bit) {
        return (bits >> bit & 1) == 1;
    }

    private static int lowestBit(int bits) {
        for (int bit = 0; bit <= ALL_HOURS; bit++) {
            if (hasBit(bits, bit)) return bit;
        }
        return NONE;
    }

    private static int twoAsNumber(int one, int other) {
        return 10 * one + other;
    }

    private static long inLowestTerms(long above, long below, int part) {
        long divisor = greatestDivisor(above, below);
        if (above == 0 || divisor == 0) return part;
        return (part == 0 ? above : below) / divisor;
    }

    private static long greatestDivisor(long one, long other) {
        long greater = one;
        long less = other;
        // Euclid's steps on numbers of 63 bits are fewer than 100.
        for (int step = 0; step < 100 && less != 0; step++) {
            long rest = greater % less;
            greater = less;
            less = rest;
        }
        return greater;
    }

    /** The people, their mats, their quarrels and the day: all that an image holds. */
    private static final class Meeting {
        private static final int MERCHANT = 1;
        private static final int BOY = 2;
        private static final int WIDOWER = 3;
        private static final int DEALER = 4;
        private static final int BLIND = 5;
        private static final int LIKES_AT_PEACE = 60;
        private static final int LIKES_NOBODY = 50;

        private final int[] kinds;
        private final int[] figures;
        private final int[] hours;
        private final int[] mates;
        private final int[] quarrelOf;
        private int number;
        private int day;

        Meeting() {
            kinds = new int[MOST_PEOPLE];
            figures = new int[MOST_PEOPLE];
            hours = new int[MOST_PEOPLE];
            mates = new int[MOST_PEOPLE];
            quarrelOf = new int[MOST_PEOPLE * MOST_PEOPLE];
        }

        // Places without people are copied too: so their quarrels are 0 for whoever comes next.
        void copyFrom(Meeting other) {
            for (int person = 0; person < MOST_PEOPLE; person++) {
                setCell(kinds, person, cell(other.kinds, person));
                setCell(figures, person, cell(other.figures, person));
                setCell(hours, person, cell(other.hours, person));
                setCell(mates, person, cell(other.mates, person));
            }
            for (int two = 0; two < quarrelOf.length; two++) {
                setCell(quarrelOf, two, cell(other.quarrelOf, two));
            }
            number = other.number;
            day = other.day;
        }

        int people() {
            return number;
        }

        int day() {
            return day;
        }

        boolean isFull() {
            return number >= MOST_PEOPLE;
        }

        boolean has(int person) {
            return person >= 0 && person < number;
        }

        boolean areTwo(int one, int other) {
            return has(one) && has(other) && one != other;
        }

        int addPerson(int kind, int figure, int comingHours) {
            int person = number;
            setCell(kinds, person, kind);
            setCell(figures, person, figure);
            setCell(hours, person, comingHours);
            setCell(mates, person, NONE);
            number++;
            return person;
        }

        int kindOf(int person) {
            return cell(kinds, person);
        }

        void setKind(int person, int kind) {
            setCell(kinds, person, kind);
        }

        int figureOf(int person) {
            return cell(figures, person);
        }

        void setFigure(int person, int figure) {
            setCell(figures, person, figure);
        }

        int hoursOf(int person) {
            return cell(hours, person);
        }

        void setHours(int person, int comingHours) {
            setCell(hours, person, comingHours);
        }

        int mateOf(int person) {
            return has(person) ? cell(mates, person) : NONE;
        }

        void setMate(int person, int mate) {
            setCell(mates, person, mate);
        }

        int quarrel(int one, int other) {
            return cell(quarrelOf, one * MOST_PEOPLE + other);
        }

        void setQuarrel(int one, int other, int v) {
            setCell(quarrelOf, one * MOST_PEOPLE + other, v);
            setCell(quarrelOf, other * MOST_PEOPLE + one, v);
        }

        int softOf(int person) {
            int figure = cell(figures, person);
            switch (cell(kinds, person)) {
                case MERCHANT: return figure / 5;
                case BOY: return 3;
                case WIDOWER: return 2;
                case DEALER: return figure / 5 + 1;
                case BLIND: return 4;
                default: return 1;
            }
        }

        int soreOf(int person) {
            int figure = cell(figures, person);
            switch (cell(kinds, person)) {
                case MERCHANT: return 3;
                case BOY: return 0;
                case WIDOWER: case BLIND: return figure / 3;
                default: return 1;
            }
        }

        int charmOf(int person) {
            int figure = cell(figures, person);
            switch (cell(kinds, person)) {
                case MERCHANT: return figure / 2;
                case BOY: return figure + 3;
                case WIDOWER: return 0;
                case DEALER: return figure / 2 + 4;
                case BLIND: return 9;
                default: return figure;
            }
        }

        boolean onOneMat(int one, int other) {
            return mateOf(one) == other;
        }

        void joinOrPart(int one, int other) {
            if (onOneMat(one, other)) {
                leaveMat(one);
            } else {
                join(one, other);
            }
        }

        void join(int one, int other) {
            leaveMat(one);
            leaveMat(other);
            setMate(one, other);
            setMate(other, one);
        }

        private void leaveMat(int person) {
            int mate = cell(mates, person);
            if (mate == NONE) return;
            setCell(mates, mate, NONE);
            setCell(mates, person, NONE);
        }

        int fullMats() {
            int mats = 0;
            for (int person = 0; person < number; person++) {
                if (mateOf(person) > person) mats++;
            }
            return mats;
        }

        int howManyTwos() {
            return number * (number - 1) / 2;
        }

        int allQuarrels() {
            int sum = 0;
            for (int one = 0; one < number; one++) {
                for (int other = one + 1; other < number; other++) {
                    sum += quarrel(one, other);
                }
            }
            return sum;
        }

        int twosWithout() {
            int twos = 0;
            for (int one = 0; one < number; one++) {
                for (int other = one + 1; other < number; other++) {
                    if (quarrel(one, other) == 0) twos++;
                }
            }
            return twos;
        }

        boolean matsAtPeace() {
            for (int person = 0; person < number; person++) {
                int mate = mateOf(person);
                if (mate != NONE && quarrel(person, mate) > 0) return false;
            }
            return true;
        }

        // No mat touches another's quarrel, so each two can live all days at one go.
        void live(int n, Kneeling kneeling) {
            for (int person = 0; person < number; person++) {
                int mate = mateOf(person);
                if (mate <= person) continue;
                kneeling.take(this, person, mate);
                setQuarrel(person, mate, kneeling.afterDays(quarrel(person, mate), n));
            }
            day += n;
        }

        int howManyComeAt(int hour) {
            int coming = 0;
            for (int person = 0; person < number; person++) {
                if (hasBit(hoursOf(person), hour)) coming++;
            }
            return coming;
        }

        int likes(int one, int other) {
            int shared = Integer.bitCount(hoursOf(one) & hoursOf(other));
            return LIKES_AT_PEACE - quarrel(one, other) + shared + charmOf(other);
        }

        boolean wouldRather(int one, int other) {
            int mate = mateOf(one);
            if (mate == NONE) return likes(one, other) >= LIKES_NOBODY;
            return likes(one, other) > likes(one, mate);
        }

        boolean wouldLeave(int one, int other) {
            return !onOneMat(one, other) && wouldRather(one, other) && wouldRather(other, one);
        }

        boolean isRid(int person) {
            int mate = mateOf(person);
            return mate != NONE && likes(person, mate) < LIKES_NOBODY;
        }

        boolean isSteady() {
            for (int one = 0; one < number; one++) {
                if (isRid(one)) return false;
                for (int other = one + 1; other < number; other++) {
                    if (wouldLeave(one, other)) return false;
                }
            }
            return true;
        }
    }

    /** Two on one mat: how their quarrel goes with the hours. It serves for all twos, one at a time. */
    private static final class Kneeling {
        private final int[] changeByHour;
        private int hoursOfOther;
        private int softOfBoth;
        private int soreOfOne;
        private int soreOfOther;

        Kneeling() {
            changeByHour = new int[HOURS];
        }

        void take(Meeting meeting, int one, int other) {
            hoursOfOther = meeting.hoursOf(other);
            softOfBoth = meeting.softOf(one) + meeting.softOf(other);
            soreOfOne = meeting.soreOf(one);
            soreOfOther = meeting.soreOf(other);
            letOneComeAt(meeting.hoursOf(one));
        }

        void letOneComeAt(int hoursOfOne) {
            for (int hour = 0; hour < HOURS; hour++) {
                setCell(changeByHour, hour, change(hasBit(hoursOfOne, hour), hasBit(hoursOfOther, hour)));
            }
        }

        private int change(boolean oneComes, boolean otherComes) {
            if (oneComes && otherComes) return -softOfBoth;
            if (oneComes) return soreOfOne;
            return otherComes ? soreOfOther : 0;
        }

        int afterHour(int quarrel, int hour) {
            return Math.max(0, Math.min(MOST_QUARREL, quarrel + cell(changeByHour, hour)));
        }

        int afterDay(int quarrel) {
            int then = quarrel;
            for (int hour = 0; hour < HOURS; hour++) {
                then = afterHour(then, hour);
            }
            return then;
        }

        int afterDays(int quarrel, int n) {
            int then = quarrel;
            for (int gone = 0; gone < n; gone++) {
                then = afterDay(then);
            }
            return then;
        }

        int firstMended(int quarrel) {
            int then = quarrel;
            for (int n = 0; n <= MOST_DAYS_IN_MIND; n++) {
                if (then == 0) return n;
                then = afterDay(then);
            }
            return NONE;
        }
    }

    /** What can be told of a meeting as it stands, without a day gone by. */
    private static final class Standing {
        private static final int LIKES_A_FRIEND = 60;
        private static final int MOST_OF_WAYS = 20;
        private static final int LESS_BY_GIVING_WAY = 10;
        private static final int GAIN_OF_THE_HARD = 8;
        private static final int LOSS_OF_THE_MILD = 5;

        private final Meeting now;

        Standing(Meeting now) {
            this.now = now;
        }

        int firstLeaving() {
            for (int one = 0; one < now.people(); one++) {
                for (int other = one + 1; other < now.people(); other++) {
                    if (now.wouldLeave(one, other)) return twoAsNumber(one, other);
                }
            }
            return NONE;
        }

        int howManyLeave() {
            int twos = 0;
            for (int one = 0; one < now.people(); one++) {
                for (int other = one + 1; other < now.people(); other++) {
                    if (now.wouldLeave(one, other)) twos++;
                }
            }
            return twos;
        }

        int thoseRid() {
            int those = 0;
            for (int person = 0; person < now.people(); person++) {
                if (now.isRid(person)) those |= 1 << person;
            }
            return those;
        }

        int mostLikedBy(int person) {
            int best = NONE;
            for (int other = 0; other < now.people(); other++) {
                if (other == person) continue;
                if (best == NONE || now.likes(person, other) > now.likes(person, best)) best = other;
            }
            return best;
        }

        int whoWouldHave(int person) {
            int those = 0;
            for (int other = 0; other < now.people(); other++) {
                if (other != person && now.wouldRather(other, person)) those |= 1 << other;
            }
            return those;
        }

        int thoseLonely() {
            int those = 0;
            for (int person = 0; person < now.people(); person++) {
                if (now.mateOf(person) == NONE && whoWouldHave(person) == 0) those |= 1 << person;
            }
            return those;
        }

        int bestSwap() {
            int best = NONE;
            int mostGain = 0;
            for (int first = 0; first < now.people(); first++) {
                for (int second = first + 1; second < now.people(); second++) {
                    if (!isLeastOfMat(first) || !isLeastOfMat(second)) continue;
                    int gain = gainBySwap(first, second);
                    if (gain <= mostGain) continue;
                    mostGain = gain;
                    best = twoAsNumber(first, second);
                }
            }
            return best;
        }

        private boolean isLeastOfMat(int person) {
            return now.mateOf(person) > person;
        }

        private int gainBySwap(int first, int second) {
            int mateOfFirst = now.mateOf(first);
            int mateOfSecond = now.mateOf(second);
            return likesOfBoth(first, mateOfSecond) + likesOfBoth(second, mateOfFirst)
                - likesOfBoth(first, mateOfFirst) - likesOfBoth(second, mateOfSecond);
        }

        private int likesOfBoth(int one, int other) {
            return now.likes(one, other) + now.likes(other, one);
        }

        int fullestHour() {
            int best = 0;
            for (int hour = 1; hour < HOURS; hour++) {
                if (now.howManyComeAt(hour) > now.howManyComeAt(best)) best = hour;
            }
            return best;
        }

        int allComings() {
            int comings = 0;
            for (int hour = 0; hour < HOURS; hour++) {
                comings += now.howManyComeAt(hour);
            }
            return comings;
        }

        int mostCharming() {
            int best = NONE;
            for (int person = 0; person < now.people(); person++) {
                if (best == NONE || now.charmOf(person) > now.charmOf(best)) best = person;
            }
            return best;
        }

        int howManyFriends() {
            int twos = 0;
            for (int one = 0; one < now.people(); one++) {
                for (int other = one + 1; other < now.people(); other++) {
                    if (areFriends(one, other)) twos++;
                }
            }
            return twos;
        }

        private boolean areFriends(int one, int other) {
            return now.likes(one, other) >= LIKES_A_FRIEND && now.likes(other, one) >= LIKES_A_FRIEND;
        }

        int chainFrom(int person) {
            int seen = 0;
            int next = person;
            for (int step = 0; step < MOST_PEOPLE; step++) {
                if (next == NONE || hasBit(seen, next)) break;
                seen |= 1 << next;
                next = mostLikedBy(next);
            }
            return Integer.bitCount(seen);
        }

        int greatestLessLeast() {
            if (now.people() < 2) return 0;
            int greatest = 0;
            int least = MOST_QUARREL;
            for (int one = 0; one < now.people(); one++) {
                for (int other = one + 1; other < now.people(); other++) {
                    greatest = Math.max(greatest, now.quarrel(one, other));
                    least = Math.min(least, now.quarrel(one, other));
                }
            }
            return greatest - least;
        }

        int worstFor(int person) {
            int worst = NONE;
            for (int other = 0; other < now.people(); other++) {
                if (other == person) continue;
                if (worst == NONE || now.quarrel(person, other) > now.quarrel(person, worst)) worst = other;
            }
            return worst;
        }

        int firstNotSo(int person, Row told) {
            for (int other = 0; other < told.number(); other++) {
                int truth = other == person ? 0 : now.quarrel(person, other);
                if (!now.has(other) || told.at(other) != truth) return other;
            }
            return NONE;
        }

        int firstSettledWays(int one, int other) {
            int quarrel = now.quarrel(one, other);
            for (int mine = 0; mine <= 1; mine++) {
                for (int his = 0; his <= 1; his++) {
                    if (isSettled(quarrel, mine, his)) return twoAsNumber(mine, his);
                }
            }
            return NONE;
        }

        private static boolean isSettled(int quarrel, int mine, int his) {
            return worth(quarrel, mine, his) >= worth(quarrel, 1 - mine, his)
                && worth(quarrel, his, mine) >= worth(quarrel, 1 - his, mine);
        }

        private static int worth(int quarrel, int mine, int his) {
            int then = Math.max(0, quarrel - LESS_BY_GIVING_WAY * (mine + his));
            if (mine < his) return MOST_OF_WAYS - then + GAIN_OF_THE_HARD;
            if (mine > his) return MOST_OF_WAYS - then - LOSS_OF_THE_MILD;
            return MOST_OF_WAYS - then;
        }
    }

    /** What would be behind days that go by in mind alone. */
    private static final class Mind {
        private static final int MIDDLE_QUARREL = 50;
        private static final int DAYS_WITH_HOUR_TWICE = 9;

        private final Meeting now;
        private final Meeting draft;
        private final Kneeling kneeling;

        Mind(Meeting now, Meeting draft, Kneeling kneeling) {
            this.now = now;
            this.draft = draft;
            this.kneeling = kneeling;
        }

        int quarrelBehind(int one, int other, int n) {
            int quarrel = now.quarrel(one, other);
            if (!now.onOneMat(one, other)) return quarrel;
            kneeling.take(now, one, other);
            return kneeling.afterDays(quarrel, n);
        }

        int allQuarrelsBehind(int n) {
            draft.copyFrom(now);
            draft.live(n, kneeling);
            return draft.allQuarrels();
        }

        int twosWithoutBehind(int n) {
            draft.copyFrom(now);
            draft.live(n, kneeling);
            return draft.twosWithout();
        }

        int atLawBehind(int n) {
            draft.copyFrom(now);
            draft.live(n, kneeling);
            int answer = NONE;
            int greatest = -1;
            for (int one = 0; one < draft.people(); one++) {
                for (int other = one + 1; other < draft.people(); other++) {
                    if (draft.quarrel(one, other) <= greatest) continue;
                    greatest = draft.quarrel(one, other);
                    answer = twoAsNumber(one, other);
                }
            }
            return answer;
        }

        int firstMended(int one, int other) {
            if (now.onOneMat(one, other)) return firstMendedOnOneMat(one, other);
            return now.quarrel(one, other) == 0 ? 0 : NONE;
        }

        // Of all pairings too: apart a quarrel stays, so only one mat can bring it to 0, whoever else kneels.
        int firstMendedOnOneMat(int one, int other) {
            kneeling.take(now, one, other);
            return kneeling.firstMended(now.quarrel(one, other));
        }

        int matsNeverMended() {
            int mats = 0;
            for (int person = 0; person < now.people(); person++) {
                int mate = now.mateOf(person);
                if (mate > person && quarrelBehind(person, mate, MOST_DAYS_IN_MIND) > 0) mats++;
            }
            return mats;
        }

        int turnOf(int one, int other) {
            kneeling.take(now, one, other);
            return kneeling.afterDay(MIDDLE_QUARREL) - MIDDLE_QUARREL;
        }

        int bestHours(int person) {
            int best = NONE;
            int soonest = NONE;
            for (int hours = 0; hours <= ALL_HOURS; hours++) {
                int when = mendedByHours(person, hours);
                if (when == NONE) continue;
                boolean sooner = best == NONE || when < soonest;
                boolean fewer = when == soonest && Integer.bitCount(hours) < Integer.bitCount(best);
                if (!sooner && !fewer) continue;
                best = hours;
                soonest = when;
            }
            return best;
        }

        int mendedByHours(int person, int hours) {
            int mate = now.mateOf(person);
            if (mate == NONE || hours == NONE) return NONE;
            kneeling.take(now, person, mate);
            kneeling.letOneComeAt(hours);
            return kneeling.firstMended(now.quarrel(person, mate));
        }

        int lessByHour(int person, int hour, int n) {
            int mate = now.mateOf(person);
            if (mate == NONE) return 0;
            kneeling.take(now, person, mate);
            int without = kneeling.afterDays(now.quarrel(person, mate), n);
            kneeling.letOneComeAt(now.hoursOf(person) | 1 << hour);
            return without - kneeling.afterDays(now.quarrel(person, mate), n);
        }

        int kindsThatFit(int one, int other, Row told) {
            int fitting = 0;
            draft.copyFrom(now);
            for (int kind = 0; kind < KINDS; kind++) {
                draft.setKind(one, kind);
                if (fits(one, other, told)) fitting |= 1 << kind;
            }
            return fitting;
        }

        int figuresThatFit(int one, int other, Row told) {
            int fitting = 0;
            draft.copyFrom(now);
            for (int figure = 0; figure < FIGURES; figure++) {
                draft.setFigure(one, figure);
                if (fits(one, other, told)) fitting |= 1 << figure;
            }
            return fitting;
        }

        int hoursThatFit(int one, int other, Row told) {
            int fitting = 0;
            draft.copyFrom(now);
            for (int hours = 0; hours <= ALL_HOURS; hours++) {
                draft.setHours(one, hours);
                if (fits(one, other, told)) fitting |= 1 << hours;
            }
            return fitting;
        }

        private boolean fits(int one, int other, Row told) {
            boolean kneelTogether = draft.onOneMat(one, other);
            int then = draft.quarrel(one, other);
            kneeling.take(draft, one, other);
            for (int n = 0; n < told.number(); n++) {
                if (told.at(n) != then) return false;
                if (kneelTogether) then = kneeling.afterDay(then);
            }
            return true;
        }

        int firstPeace() {
            draft.copyFrom(now);
            for (int n = 0; n <= MOST_DAYS_IN_MIND; n++) {
                if (draft.matsAtPeace()) return n;
                draft.live(1, kneeling);
            }
            return NONE;
        }

        int bestHourTwice() {
            int best = 0;
            int least = matQuarrelsWithHourTwice(0);
            for (int hour = 1; hour < HOURS; hour++) {
                int sum = matQuarrelsWithHourTwice(hour);
                if (sum >= least) continue;
                least = sum;
                best = hour;
            }
            return best;
        }

        // The quarrels apart from mats are the same whatever the hour: they can't make one hour better.
        private int matQuarrelsWithHourTwice(int hour) {
            int sum = 0;
            for (int person = 0; person < now.people(); person++) {
                int mate = now.mateOf(person);
                if (mate <= person) continue;
                kneeling.take(now, person, mate);
                sum += quarrelWithHourTwice(now.quarrel(person, mate), hour);
            }
            return sum;
        }

        private int quarrelWithHourTwice(int quarrel, int hour) {
            int then = quarrel;
            for (int day = 0; day < DAYS_WITH_HOUR_TWICE; day++) {
                then = kneeling.afterHour(kneeling.afterDay(then), hour);
            }
            return then;
        }
    }

    /** All ways to put people two by two, or alone, in their order. */
    private static final class Ways {
        private static final int MOST_WAYS = 76;
        private static final int NOT_PUT = -1;

        private final int[] matesByWay;
        private final int[] putSoFar;
        private int people;
        private int number;

        Ways() {
            matesByWay = new int[MOST_WAYS * MOST_PEOPLE];
            putSoFar = new int[MOST_PEOPLE];
        }

        void list(int howMany) {
            people = Math.min(howMany, MOST_PEOPLE);
            number = 0;
            for (int person = 0; person < MOST_PEOPLE; person++) {
                setCell(putSoFar, person, NOT_PUT);
            }
            put(this, 0);
        }

        int number() {
            return number;
        }

        int mateIn(int way, int person) {
            return cell(matesByWay, way * MOST_PEOPLE + person);
        }

        // The person is the depth too: it grows by one each time and ends at the number of people.
        private static void put(Ways ways, int person) {
            if (person >= ways.people) {
                ways.keepWay();
                return;
            }
            if (cell(ways.putSoFar, person) != NOT_PUT) {
                put(ways, person + 1);
                return;
            }
            setCell(ways.putSoFar, person, NONE);
            put(ways, person + 1);
            for (int other = person + 1; other < ways.people; other++) {
                if (cell(ways.putSoFar, other) != NOT_PUT) continue;
                setCell(ways.putSoFar, person, other);
                setCell(ways.putSoFar, other, person);
                put(ways, person + 1);
                setCell(ways.putSoFar, other, NOT_PUT);
            }
            setCell(ways.putSoFar, person, NOT_PUT);
        }

        private void keepWay() {
            for (int person = 0; person < people; person++) {
                setCell(matesByWay, number * MOST_PEOPLE + person, cell(putSoFar, person));
            }
            number++;
        }
    }

    /** Which of all ways to pair people none would leave, and by which most mends. */
    private static final class Pairs {
        private final Meeting now;
        private final Meeting draft;
        private final Kneeling kneeling;
        private final Ways waysOfAll;
        private final int[] changeOnOneMat;

        Pairs(Meeting now, Meeting draft, Kneeling kneeling) {
            this.now = now;
            this.draft = draft;
            this.kneeling = kneeling;
            waysOfAll = new Ways();
            changeOnOneMat = new int[MOST_PEOPLE * MOST_PEOPLE];
        }

        int howManySteady() {
            int steady = 0;
            listWays();
            for (int way = 0; way < waysOfAll.number(); way++) {
                putOnMats(way);
                if (draft.isSteady()) steady++;
            }
            return steady;
        }

        int mateInFirstSteady(int person) {
            listWays();
            for (int way = 0; way < waysOfAll.number(); way++) {
                putOnMats(way);
                if (draft.isSteady()) return draft.mateOf(person);
            }
            return NONE;
        }

        private void listWays() {
            draft.copyFrom(now);
            waysOfAll.list(now.people());
        }

        private void putOnMats(int way) {
            for (int person = 0; person < draft.people(); person++) {
                draft.setMate(person, waysOfAll.mateIn(way, person));
            }
        }

        int leastQuarrels(int n) {
            int best = bestWay(n);
            return now.allQuarrels() + changeBy(best);
        }

        int mateInBest(int n, int person) {
            int best = bestWay(n);
            return waysOfAll.mateIn(best, person);
        }

        private int bestWay(int n) {
            measureChanges(n);
            waysOfAll.list(now.people());
            int best = 0;
            for (int way = 1; way < waysOfAll.number(); way++) {
                if (changeBy(way) < changeBy(best)) best = way;
            }
            return best;
        }

        private void measureChanges(int n) {
            for (int one = 0; one < now.people(); one++) {
                for (int other = one + 1; other < now.people(); other++) {
                    int quarrel = now.quarrel(one, other);
                    kneeling.take(now, one, other);
                    int change = kneeling.afterDays(quarrel, n) - quarrel;
                    setCell(changeOnOneMat, one * MOST_PEOPLE + other, change);
                }
            }
        }

        private int changeBy(int way) {
            int change = 0;
            for (int person = 0; person < now.people(); person++) {
                int mate = waysOfAll.mateIn(way, person);
                if (mate > person) change += cell(changeOnOneMat, person * MOST_PEOPLE + mate);
            }
            return change;
        }
    }

    /** Years in which the draw of lots puts people on mats. */
    private static final class Lots {
        private static final int DAYS_OF_YEAR = 30;
        private static final int DRAW_FACTOR = 1103515245;
        private static final int DRAW_MORE = 12345;
        private static final int DRAW_OVER = 65536;
        private static final int WITHOUT_SIGN = 0x7fffffff;

        private final Meeting now;
        private final Meeting draft;
        private final Kneeling kneeling;
        private int seed;
        private int quarrelsTogether;
        private int twosWithout;

        Lots(Meeting now, Meeting draft, Kneeling kneeling) {
            this.now = now;
            this.draft = draft;
            this.kneeling = kneeling;
        }

        void run(int years, int firstSeed) {
            seed = firstSeed;
            quarrelsTogether = 0;
            twosWithout = 0;
            if (now.people() == 0) return;
            for (int year = 0; year < years; year++) {
                liveYear();
                quarrelsTogether += draft.allQuarrels();
                twosWithout += draft.twosWithout();
            }
        }

        int quarrelsTogether() {
            return quarrelsTogether;
        }

        int twosWithout() {
            return twosWithout;
        }

        private void liveYear() {
            draft.copyFrom(now);
            for (int day = 0; day < DAYS_OF_YEAR; day++) {
                int one = draw(draft.people());
                int other = draw(draft.people());
                if (one != other && !draft.onOneMat(one, other)) draft.join(one, other);
                draft.live(1, kneeling);
            }
        }

        private int draw(int below) {
            seed = seed * DRAW_FACTOR + DRAW_MORE;
            return below > 0 ? (seed & WITHOUT_SIGN) / DRAW_OVER % below : 0;
        }
    }

    /** How likely each quarrel is behind days on which one may be away: weights out of all weight. */
    private static final class Chance {
        private final Meeting now;
        private final Kneeling kneeling;
        private final long[] weights;
        private final long[] weightsNext;
        private long allWeight;

        Chance(Meeting now, Kneeling kneeling) {
            this.now = now;
            this.kneeling = kneeling;
            weights = new long[MOST_QUARREL + 1];
            weightsNext = new long[MOST_QUARREL + 1];
        }

        void weigh(int person, int other, int n, int odds) {
            for (int quarrel = 0; quarrel < weights.length; quarrel++) {
                weights[quarrel] = 0;
            }
            allWeight = 1;
            addWeight(weights, now.quarrel(person, other), 1);
            if (!now.onOneMat(person, other)) return;
            kneeling.take(now, person, other);
            for (int day = 0; day < n; day++) {
                weighDay(now.hoursOf(person), odds);
                allWeight *= odds;
            }
        }

        long allWeight() {
            return allWeight;
        }

        long weightUpTo(int v) {
            long sum = 0;
            for (int quarrel = 0; quarrel <= v && quarrel < weights.length; quarrel++) {
                sum += weights[quarrel];
            }
            return sum;
        }

        private void weighDay(int hours, int odds) {
            for (int quarrel = 0; quarrel < weights.length; quarrel++) {
                if (weights[quarrel] == 0) continue;
                kneeling.letOneComeAt(hours);
                addWeight(weightsNext, kneeling.afterDay(quarrel), weights[quarrel] * (odds - 1));
                kneeling.letOneComeAt(0);
                addWeight(weightsNext, kneeling.afterDay(quarrel), weights[quarrel]);
            }
            for (int quarrel = 0; quarrel < weights.length && quarrel < weightsNext.length; quarrel++) {
                weights[quarrel] = weightsNext[quarrel];
                weightsNext[quarrel] = 0;
            }
        }

        private static void addWeight(long[] row, int quarrel, long weight) {
            if (quarrel >= 0 && quarrel < row.length) row[quarrel] += weight;
        }
    }

    /** A quarter told in letters. */
    private static final class Quarter {
        private static final int FAULT_OF_LETTER = -1000;
        private static final int FAULT_OF_STATEMENT = -2000;
        private static final int NOWHERE = -1;
        private static final int STATEMENT_DUE = -1;
        private static final int END_DUE = 0;
        private static final int NOTHING_FITS = -2;

        private final Kneeling kneeling;
        private final int[] letters;
        private int number;

        Quarter(Kneeling kneeling) {
            this.kneeling = kneeling;
            letters = new int[MOST_LETTERS];
        }

        boolean isFull() {
            return number >= MOST_LETTERS;
        }

        int add(int letter) {
            setCell(letters, number, letter);
            number++;
            return number;
        }

        int number() {
            return number;
        }

        void forget() {
            number = 0;
        }

        /** How many statements there were, or the fault; with a fault the draft is of no use. */
        int readInto(Meeting draft) {
            int amiss = firstLetterAmiss();
            if (amiss != NOWHERE) return FAULT_OF_LETTER - amiss;
            int statements = 0;
            int first = 0;
            for (int end = 0; end < number; end++) {
                if (cell(letters, end) != ';') continue;
                if (!carryOut(draft, first)) return FAULT_OF_STATEMENT - first;
                statements++;
                first = end + 1;
            }
            return statements;
        }

        private int firstLetterAmiss() {
            int due = STATEMENT_DUE;
            for (int place = 0; place < number; place++) {
                due = dueBehind(due, cell(letters, place));
                if (due == NOTHING_FITS) return place;
            }
            return due == STATEMENT_DUE && number > 0 ? NOWHERE : number;
        }

        // What is due: a statement, its end, or so many digits more.
        private static int dueBehind(int due, int letter) {
            if (due == STATEMENT_DUE) return digitsBehind(letter);
            if (due == END_DUE) return letter == ';' ? STATEMENT_DUE : NOTHING_FITS;
            return letter >= '0' && letter <= '9' ? due - 1 : NOTHING_FITS;
        }

        private static int digitsBehind(int letter) {
            switch (letter) {
                case 'p': case 'q': return 4;
                case 'h': return 3;
                case 'm': case 'd': return 2;
                default: return NOTHING_FITS;
            }
        }

        private boolean carryOut(Meeting draft, int place) {
            int first = digit(place + 1);
            int second = digit(place + 2);
            switch (cell(letters, place)) {
                case 'p': return addPerson(draft, first, second, twoDigits(place + 3));
                case 'h': return changeHours(draft, first, twoDigits(place + 2));
                case 'q': return changeQuarrel(draft, first, second, twoDigits(place + 3));
                case 'm': return changeMat(draft, first, second);
                case 'd':
                    int n = twoDigits(place + 1);
                    if (n < 1 || n > MOST_DAYS_AT_ONCE || draft.day() + n > MOST_DAY) return false;
                    draft.live(n, kneeling);
                    return true;
                default: return false;
            }
        }

        private int digit(int place) {
            return cell(letters, place) - '0';
        }

        private int twoDigits(int place) {
            return 10 * digit(place) + digit(place + 1);
        }

        private static boolean addPerson(Meeting draft, int kind, int figure, int hours) {
            if (kind >= KINDS || hours > ALL_HOURS || draft.isFull()) return false;
            draft.addPerson(kind, figure, hours);
            return true;
        }

        private static boolean changeHours(Meeting draft, int person, int hours) {
            if (!draft.has(person) || hours > ALL_HOURS) return false;
            draft.setHours(person, hours);
            return true;
        }

        private static boolean changeQuarrel(Meeting draft, int one, int other, int v) {
            if (!draft.areTwo(one, other)) return false;
            draft.setQuarrel(one, other, v);
            return true;
        }

        private static boolean changeMat(Meeting draft, int one, int other) {
            if (!draft.areTwo(one, other)) return false;
            draft.joinOrPart(one, other);
            return true;
        }
    }

    /** Numbers told one by one. */
    private static final class Row {
        private final int[] numbers;
        private int number;

        Row() {
            numbers = new int[MOST_IN_ROW];
        }

        boolean isFull() {
            return number >= MOST_IN_ROW;
        }

        int add(int v) {
            setCell(numbers, number, v);
            number++;
            return number;
        }

        int at(int place) {
            return cell(numbers, place);
        }

        int number() {
            return number;
        }

        void forget() {
            number = 0;
        }
    }

    /** The latest meetings that can be taken back; the oldest one gives its place to a new one. */
    private static final class Past {
        private final Meeting[] before;
        private int next;
        private int number;

        Past() {
            before = new Meeting[MOST_BACK];
            for (int place = 0; place < before.length; place++) {
                before[place] = new Meeting();
            }
        }

        void keep(Meeting now) {
            copy(now, meetingAt(next));
            next = (next + 1) % MOST_BACK;
            number = Math.min(number + 1, MOST_BACK);
        }

        void takeBack(Meeting now) {
            if (number == 0) return;
            next = (next + MOST_BACK - 1) % MOST_BACK;
            copy(meetingAt(next), now);
            number--;
        }

        boolean isEmpty() {
            return number == 0;
        }

        int number() {
            return number;
        }

        void forget() {
            number = 0;
        }

        private Meeting meetingAt(int place) {
            return place >= 0 && place < before.length ? before[place] : null;
        }

        private static void copy(Meeting from, Meeting to) {
            if (from != null && to != null) to.copyFrom(from);
        }
    }
}
