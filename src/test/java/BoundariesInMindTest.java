/** Promises 12 to 27: each sentence of them, and of 'II', that names a boundary. */
public final class BoundariesInMindTest extends Boundary {

    private static void p12Behind() {
        sentence(12, "n DAYS on QUARREL of two. -1 either (one twice); -4; -6 99.");
        inMind(Scenes::lively, 30, "behind", 0, 1, 0);
        inMind(Scenes::lively, 26, "behind", 1, 0, 1);
        inMind(Scenes::lively, 2, "behind", 0, 1, 7);
        inMind(Scenes::lively, 0, "behind", 0, 1, 8);
        inMind(Scenes::lively, 0, "behind", 0, 1, 99);
        inMind(() -> Scenes.slow(99), 1, "behind", 0, 1, 98);
        inMind(() -> Scenes.slow(99), 0, "behind", 0, 1, 99);
        inMind(() -> Scenes.onDay(999), 0, "behind", 0, 1, 99);
        PrayerMatsFace late = Scenes.onDay(999);
        late.quarrels(0, 1, 30);
        due(late, 2, "behind", 0, 1, 7);
        due(late, 0, "behind", 0, 1, 99);
        due(late, 999, "count", 1);
        inMind(Scenes::full, 33, "behind", 4, 5, 99);
        twoRefused("behind", 0);
        twoRefused("behind", -1);
        twoRefused("behind", 100);
        refused(Scenes::lively, -4, "behind", 0, 1, -1);
        refused(Scenes::lively, -4, "behind", 0, 1, LEAST);
        refused(Scenes::lively, -6, "behind", 0, 1, 100);
        refused(Scenes::lively, -6, "behind", 0, 1, MOST);
    }

    private static void p13All() {
        sentence(13, "n DAYS on: all QUARRELS (what 0), twos with 0 (1), AT LAW (2; -9). -4; -6 99; -2.");
        inMind(Scenes::lively, 30, "all", 0, 0);
        inMind(Scenes::lively, 26, "all", 1, 0);
        inMind(Scenes::lively, 0, "all", 99, 0);
        inMind(Scenes::lively, 0, "all", 7, 1);
        inMind(Scenes::lively, 1, "all", 8, 1);
        inMind(() -> Scenes.slow(99), 1, "all", 98, 0);
        inMind(() -> Scenes.slow(99), 0, "all", 98, 1);
        inMind(() -> Scenes.slow(99), 0, "all", 99, 0);
        inMind(() -> Scenes.slow(99), 1, "all", 99, 1);
        inMind(() -> Scenes.alike(6), 15, "all", 0, 1);
        inMind(Scenes::nobody, 0, "all", 99, 0);
        inMind(Scenes::nobody, 0, "all", 99, 1);
        inMind(Scenes::alone, 0, "all", 99, 1);
        refused(Scenes::lively, -4, "all", -1, 0);
        refused(Scenes::lively, -4, "all", LEAST, 3);
        refused(Scenes::lively, -4, "all", -1, -1);
        refused(Scenes::lively, -6, "all", 100, 0);
        refused(Scenes::lively, -6, "all", MOST, 3);
        refused(Scenes::lively, -6, "all", 100, -1);
        refused(Scenes::lively, -2, "all", 0, -1);
        refused(Scenes::lively, -2, "all", 99, 3);
        refused(Scenes::lively, -2, "all", 0, MOST);
        refused(Scenes::lively, -2, "all", 0, LEAST);

        sentence(13, "AT LAW: the two (10 the lesser and the other) with the greatest QUARREL behind n DAYS, of several the first; -9 fewer than two.");
        inMind(Scenes::nobody, -9, "all", 0, 2);
        inMind(Scenes::alone, -9, "all", 0, 2);
        inMind(() -> Scenes.alike(2), 1, "all", 0, 2);
        inMind(() -> Scenes.alike(6), 1, "all", 99, 2);
        due(told("p0000;p0000;p0000;q0105;q0205;q1205;"), 1, "all", 0, 2);
        due(told("p0000;p0000;p0000;q0105;q0206;q1206;"), 2, "all", 0, 2);
        due(told("p0000;p0000;p0000;q0105;q0205;q1206;"), 12, "all", 0, 2);
        due(quarrelsOfSix(0, 45, 1), 45, "all", 0, 2);
        PrayerMatsFace x = told("p0431;p1721;p0000;q0130;q0226;m01;");
        due(x, 1, "all", 0, 2);
        due(x, 1, "all", 1, 2);
        due(x, 2, "all", 2, 2);
    }

    /** Six PERSONS who never come, all QUARRELS the same but that of one two. */
    private static PrayerMatsFace quarrelsOfSix(int all, int two, int v) {
        PrayerMatsFace x = Scenes.people(6, 0, all);
        x.quarrels(two / 10, two % 10, v);
        return x;
    }

    private static void p14Mended() {
        sentence(14, "MENDED: the first n (0 .. 99) behind which QUARREL of two is 0; -9");
        inMind(Scenes::lively, 8, "mended", 0, 1);
        inMind(Scenes::lively, 8, "mended", 1, 0);
        inMind(() -> Scenes.slow(0), 0, "mended", 0, 1);
        inMind(() -> Scenes.slow(1), 1, "mended", 0, 1);
        inMind(() -> Scenes.slow(98), 98, "mended", 0, 1);
        inMind(() -> Scenes.slow(99), 99, "mended", 0, 1);
        inMind(Scenes::full, -9, "mended", 4, 5);
        due(Scenes.alike(2), 0, "mended", 0, 1);
        due(told("p0000;p0000;q0101;"), -9, "mended", 0, 1);
        due(told("p0000;p0000;q0101;m01;"), -9, "mended", 0, 1);
        due(told("p1031;p0000;m01;"), 0, "mended", 0, 1);
        due(told("p1031;p0000;q0101;m01;"), -9, "mended", 0, 1);
        sentence(14, "MENDED; -9. -1 either (one twice).");
        twoRefused("mended");
    }

    private static void p15Never() {
        sentence(15, "NEVER: how many twos on one mat whose QUARREL is above 0 behind 99 DAYS.");
        inMind(Scenes::nobody, 0, "never");
        inMind(Scenes::lively, 0, "never");
        inMind(() -> Scenes.slow(99), 0, "never");
        due(told("p0000;p0000;m01;"), 0, "never");
        due(told("p0000;p0000;q0101;m01;"), 1, "never");
        due(told("p0000;p0000;q0101;"), 0, "never");
        due(told("p1001;p0000;m01;"), 1, "never");
        PrayerMatsFace three = quarrelsOfSix(1, 45, 0);
        three.joins(0, 1);
        three.joins(2, 3);
        three.joins(4, 5);
        due(three, 2, "never");
        three.quarrels(4, 5, 1);
        due(three, 3, "never");
    }

    private static void p16Turn() {
        sentence(16, "TURN: by how much a DAY makes QUARREL of two more (below 0 less), were they on one mat and it 50.");
        inMind(Scenes::lively, -4, "turn", 0, 1);
        inMind(Scenes::lively, -4, "turn", 1, 0);
        due(told("p0031;p0031;"), -10, "turn", 0, 1);
        due(told("p0031;p0031;q0199;m01;"), -10, "turn", 0, 1);
        due(told("p5931;p5931;"), -40, "turn", 0, 1);
        due(told("p1031;p0000;q0199;"), 15, "turn", 1, 0);
        due(told("p1000;p0000;q0150;"), 0, "turn", 0, 1);
        due(told("p0003;p0001;"), -1, "turn", 0, 1);
        sentence(16, "TURN. Refused as told: -1 either (one twice).");
        twoRefused("turn");
        sentence(16, "Of turn(), helps() 1000000000 less them (-1 as 1000000001)");
        due(Scenes.lively(), 1000000001, "turn", 0, 0);
    }

    private static void leavesOf(PrayerMatsFace x, int first, int many, int rid) {
        due(x, first, "leaves", 0);
        due(x, many, "leaves", 1);
        due(x, rid, "leaves", 2);
    }

    private static void p17Leaves() {
        sentence(17, "LEAVES: the first (what 0; -9), how many (1), RID (2, bits). -2.");
        leavesOf(Scenes.nobody(), -9, 0, 0);
        leavesOf(Scenes.alone(), -9, 0, 0);
        inMind(Scenes::lively, -9, "leaves", 0);
        inMind(Scenes::lively, 0, "leaves", 1);
        inMind(Scenes::lively, 3, "leaves", 2);
        for (int what : new int[] {-1, 3, MOST, LEAST}) refused(Scenes::lively, -2, "leaves", what);

        sentence(17, "He WOULD RATHER another one than somebody, if he LIKES him more; than nobody, if he LIKES him 50 or more (nobody rather, if less).");
        leavesOf(told("p0000;p0000;q0110;"), 1, 1, 0);
        leavesOf(told("p0000;p0000;q0111;"), -9, 0, 0);
        leavesOf(told("p0000;p0100;q0110;"), 1, 1, 0);
        leavesOf(told("p0000;p0100;q0111;"), -9, 0, 0);
        leavesOf(told("p0100;p0000;q0111;"), -9, 0, 0);
        leavesOf(told("p0000;p0000;p0000;m01;"), -9, 0, 0);
        leavesOf(told("p0000;p0000;p0000;q0101;m01;"), 2, 2, 0);
        leavesOf(told("p0000;p0000;p0000;q0101;q0201;m01;"), 12, 1, 0);
        leavesOf(told("p0000;p0000;p0000;q0140;q0210;q1211;m01;"), 2, 1, 3);
        leavesOf(told("p0000;p0000;p0100;m01;"), 2, 2, 0);
        leavesOf(told("p0100;p0000;p0000;m01;"), -9, 0, 0);

        sentence(17, "LEAVES: the first two (10 the lesser and the other; not on one mat) who both WOULD RATHER each other than whom they have; -9; how many such twos.");
        leavesOf(told("p0000;p0000;m01;"), -9, 0, 0);
        leavesOf(Scenes.alike(6), 1, 15, 0);
        leavesOf(quarrelsOfSix(11, 45, 10), 45, 1, 0);
        leavesOf(quarrelsOfSix(10, 1, 11), 2, 14, 0);

        sentence(17, "RID: those (bits) who WOULD RATHER nobody than their MATE.");
        leavesOf(told("p0000;p0000;q0110;m01;"), -9, 0, 0);
        leavesOf(told("p0000;p0000;q0111;m01;"), -9, 0, 3);
        leavesOf(told("p0000;p0100;q0111;m01;"), -9, 0, 2);
        leavesOf(told("p0100;p0000;q0111;m01;"), -9, 0, 1);
        leavesOf(told("p0000;p0000;q0199;"), -9, 0, 0);
        PrayerMatsFace last = quarrelsOfSix(99, 1, 99);
        last.joins(4, 5);
        leavesOf(last, -9, 0, 48);
    }

    /** How many, and the MATE of each in the first. */
    private static void pairingsOf(PrayerMatsFace x, int many, int... mates) {
        due(x, many, "pairings", -1);
        for (int person = 0; person < mates.length; person++) due(x, mates[person], "pairings", person);
    }

    private static void p18Pairings() {
        sentence(18, "PAIRINGS: how many (person -1), the MATE in the first (-9). -1.");
        pairingsOf(Scenes.nobody(), 1);
        pairingsOf(Scenes.alone(), 1, -9);
        pairingsOf(Scenes.alike(2), 1, 1, 0);
        inMind(Scenes::lively, 1, "pairings", -1);
        inMind(Scenes::lively, -9, "pairings", 0);
        inMind(() -> Scenes.alike(6), 3, "pairings", 2);
        inMind(() -> Scenes.alike(6), 4, "pairings", 5);
        PrayerMatsFace grows = Scenes.alike(2);
        due(grows, 1, "pairings", -1);
        due(grows, 1, "pairings", -1);
        grows.person(0, 0, 0);
        pairingsOf(grows, 3, -9, 2, 1);
        pairingsOf(grows, 3, -9, 2, 1);
        for (int person : new int[] {-2, 2, MOST, LEAST}) refused(Scenes::lively, -1, "pairings", person);
        refused(Scenes::full, -1, "pairings", 6);
        refused(Scenes::alone, -1, "pairings", 1);
        refused(Scenes::nobody, -1, "pairings", 0);

        sentence(18, "how many are such that none LEAVES and nobody is RID");
        pairingsOf(told("p0000;p0000;q0110;"), 1, 1, 0);
        pairingsOf(told("p0000;p0000;q0111;"), 1, -9, -9);
        pairingsOf(told("p0000;p0100;q0111;m01;"), 1, -9, -9);
        pairingsOf(told("p0000;p0000;p0000;q0101;"), 2, -9, 2, 1);
        pairingsOf(told("p0000;p0000;p0000;q0201;q1201;"), 1, 1, 0, -9);
        pairingsOf(quarrelsOfSix(99, 1, 99), 1, -9, -9, -9, -9, -9, -9);
        pairingsOf(quarrelsOfSix(99, 45, 10), 1, -9, -9, -9, -9, 5, 4);

        sentence(18, "the first such (by numbers: for the least one alone first, then with the least, ..): the MATE of one in it; -9 alone");
        pairingsOf(Scenes.alike(3), 3, -9, 2, 1);
        pairingsOf(Scenes.alike(4), 3, 1, 0, 3, 2);
        pairingsOf(Scenes.alike(5), 15, -9, 2, 1, 4, 3);
        pairingsOf(Scenes.alike(6), 15, 1, 0, 3, 2, 5, 4);
        pairingsOf(matesOnly(1), 1, 5, 4, 3, 2, 1, 0);
    }

    /** Six PERSONS who would rather face 5, 4, 3, 2, 1, 0: the last of all ways to put them. */
    private static PrayerMatsFace matesOnly(int more) {
        PrayerMatsFace x = quarrelsOfSix(more, 5, 0);
        x.quarrels(1, 4, 0);
        x.quarrels(2, 3, 0);
        return x;
    }

    private static void p19BestPairing() {
        sentence(19, "BEST PAIRING: that (person -1), the MATE (-9). -1; -4; -6 99.");
        inMind(Scenes::lively, 30, "bestPairing", 0, -1);
        inMind(Scenes::lively, -9, "bestPairing", 0, 0);
        inMind(Scenes::lively, 26, "bestPairing", 1, -1);
        inMind(Scenes::lively, 1, "bestPairing", 1, 0);
        inMind(Scenes::lively, 0, "bestPairing", 99, -1);
        inMind(Scenes::lively, 0, "bestPairing", 99, 1);
        inMind(() -> Scenes.slow(99), 1, "bestPairing", 98, -1);
        inMind(() -> Scenes.slow(99), 0, "bestPairing", 99, -1);
        inMind(Scenes::nobody, 0, "bestPairing", 99, -1);
        inMind(Scenes::alone, 0, "bestPairing", 99, -1);
        inMind(Scenes::alone, -9, "bestPairing", 99, 0);
        for (int person : new int[] {-2, 2, MOST, LEAST}) {
            refused(Scenes::lively, -1, "bestPairing", 0, person);
            refused(Scenes::lively, -1, "bestPairing", -1, person);
            refused(Scenes::lively, -1, "bestPairing", 100, person);
        }
        refused(Scenes::full, -1, "bestPairing", 1, 6);
        refused(Scenes::nobody, -1, "bestPairing", 1, 0);
        refused(Scenes::lively, -4, "bestPairing", -1, -1);
        refused(Scenes::lively, -4, "bestPairing", LEAST, 1);
        refused(Scenes::lively, -6, "bestPairing", 100, -1);
        refused(Scenes::lively, -6, "bestPairing", MOST, 0);

        sentence(19, "BEST PAIRING: of all PAIRINGS that by which all QUARRELS together behind n DAYS are least, of several the first: that; the MATE of one; -9.");
        PrayerMatsFace three = told("p0031;p0031;p0031;q0110;q0210;q1210;m01;");
        bestOf(three, 0, 30, -9, -9, -9);
        bestOf(three, 1, 20, -9, 2, 1);
        three.quarrels(0, 2, 11);
        bestOf(three, 1, 21, -9, 2, 1);
        bestOf(three, 2, 20, 2, -9, 0);
        PrayerMatsFace six = matesWhoCome();
        bestOf(six, 0, 150, -9, -9, -9, -9, -9, -9);
        bestOf(six, 1, 120, 5, 4, 3, 2, 1, 0);
        bestOf(six, 5, 0, 5, 4, 3, 2, 1, 0);
        bestOf(told("p1031;p0000;q0150;m01;"), 1, 50, -9, -9);
        inMind(() -> matesWhoCome(), 3, "bestPairing", 1, 2);
        inMind(() -> matesWhoCome(), 0, "bestPairing", 1, 5);
    }

    // What was counted for more PEOPLE must not be looked at when an image leaves fewer.
    private static void p19OfFewer() {
        sentence(19, "BEST PAIRING: of all PAIRINGS that by which all QUARRELS together behind n DAYS are least");
        PrayerMatsFace x = new PrayerMatsFace();
        for (int people = 0; people <= 6; people++) {
            x.image();
            for (int more = people; more < 6; more++) x.person(0, 0, 31);
            for (int one = 0; one < 6; one++) {
                for (int other = one + 1; other < 6; other++) x.quarrels(one, other, 50);
            }
            due(x, 600, "bestPairing", 5, -1);
            x.restore();
            due(x, 0, "bestPairing", 5, -1);
            for (int person = 0; person < people; person++) due(x, -9, "bestPairing", 5, person);
            if (people < 6) x.person(0, 0, 31);
        }
    }

    /** Six PERSONS who always come, with QUARRELS of 50 in the last of all ways to put them alone. */
    private static PrayerMatsFace matesWhoCome() {
        PrayerMatsFace x = quarrelsOfSix(0, 5, 50);
        x.quarrels(1, 4, 50);
        x.quarrels(2, 3, 50);
        for (int person = 0; person < 6; person++) x.comes(person, 31);
        return x;
    }

    private static void bestOf(PrayerMatsFace x, int n, int least, int... mates) {
        due(x, least, "bestPairing", n, -1);
        for (int person = 0; person < mates.length; person++) due(x, mates[person], "bestPairing", n, person);
    }

    private static void p20Soonest() {
        sentence(20, "SOONEST: of all PAIRINGS the one by which QUARREL of two told is 0 soonest (they are on one mat or not): when; -9.");
        inMind(Scenes::lively, 8, "soonest", 0, 1);
        inMind(Scenes::lively, 8, "soonest", 1, 0);
        inMind(() -> Scenes.slow(99), 99, "soonest", 0, 1);
        inMind(() -> Scenes.slow(1), 1, "soonest", 0, 1);
        inMind(() -> Scenes.slow(0), 0, "soonest", 0, 1);
        due(told("p1001;p0001;q0199;"), 99, "soonest", 0, 1);
        due(told("p1001;p0001;p0000;q0199;m12;"), 99, "soonest", 0, 1);
        due(told("p0000;p0000;"), 0, "soonest", 0, 1);
        due(told("p1031;p0000;m01;"), 0, "soonest", 0, 1);
        due(told("p0000;p0000;q0101;"), -9, "soonest", 0, 1);
        due(told("p1031;p0000;q0101;"), -9, "soonest", 0, 1);
        sentence(20, "SOONEST; -9. -1 either (one twice).");
        twoRefused("soonest");
    }

    private static void p21MateFor() {
        sentence(21, "MATE FOR one (what 0; -9), who would have him (1, bits). -1; -2.");
        inMind(Scenes::lively, 1, "mateFor", 0, 0);
        inMind(Scenes::lively, 0, "mateFor", 0, 1);
        oneRefused("mateFor", 0);
        oneRefused("mateFor", 1);
        oneRefused("mateFor", 2);
        for (int what : new int[] {-1, 2, MOST, LEAST}) refused(Scenes::lively, -2, "mateFor", 1, what);
        refused(Scenes::alone, -2, "mateFor", 0, 2);

        sentence(21, "MATE FOR one: the one he LIKES most, of several the least; -9 nobody else is there");
        inMind(Scenes::alone, -9, "mateFor", 0, 0);
        inMind(Scenes::alone, 0, "mateFor", 0, 1);
        due(told("p0000;p0000;q0199;"), 1, "mateFor", 0, 0);
        due(Scenes.alike(3), 1, "mateFor", 0, 0);
        due(Scenes.alike(3), 0, "mateFor", 1, 0);
        due(Scenes.alike(3), 0, "mateFor", 2, 0);
        due(told("p0000;p0000;p0000;q0101;"), 2, "mateFor", 0, 0);
        due(told("p0000;p0000;p0000;q0201;"), 1, "mateFor", 2, 0);
        due(told("p0000;p0000;p0100;q0201;"), 1, "mateFor", 0, 0);
        due(told("p0000;p0000;p0100;"), 2, "mateFor", 0, 0);
        due(told("p0000;p0100;p0100;"), 1, "mateFor", 0, 0);
        due(quarrelsOfSix(1, 45, 0), 5, "mateFor", 4, 0);

        sentence(21, "who would have him (bits): those who WOULD RATHER him than whom they have.");
        due(told("p0000;p0000;q0110;"), 2, "mateFor", 0, 1);
        due(told("p0000;p0000;q0111;"), 0, "mateFor", 0, 1);
        due(told("p0000;p0000;m01;"), 0, "mateFor", 0, 1);
        due(told("p0000;p0000;p0000;m12;"), 0, "mateFor", 0, 1);
        due(told("p0000;p0000;p0000;q1201;m12;"), 6, "mateFor", 0, 1);
        due(told("p0000;p0000;p0000;q1201;q0101;m12;"), 4, "mateFor", 0, 1);
        due(Scenes.alike(6), 62, "mateFor", 0, 1);
        due(Scenes.alike(6), 31, "mateFor", 5, 1);
    }

    private static void hoursOf(PrayerMatsFace x, int person, int hours, int when) {
        due(x, hours, "hoursFor", person, 0);
        due(x, when, "hoursFor", person, 1);
    }

    private static void p22HoursFor() {
        sentence(22, "HOURS FOR one (what 0; -9), when (1; -9). -1; -2.");
        inMind(Scenes::lively, 21, "hoursFor", 0, 0);
        inMind(Scenes::lively, 5, "hoursFor", 0, 1);
        inMind(Scenes::lively, 31, "hoursFor", 1, 0);
        inMind(Scenes::lively, 3, "hoursFor", 1, 1);
        oneRefused("hoursFor", 0);
        oneRefused("hoursFor", 1);
        oneRefused("hoursFor", 2);
        for (int what : new int[] {-1, 2, MOST, LEAST}) refused(Scenes::lively, -2, "hoursFor", 1, what);
        refused(Scenes::alone, -2, "hoursFor", 0, 2);

        sentence(22, "HOURS FOR one: HOURS (bits, of several the fewest, then the least) by which QUARREL with his MATE is 0 soonest (within 99)");
        hoursOf(told("p2000;p2031;m01;"), 0, 0, 0);
        hoursOf(told("p2000;p2031;q0106;m01;"), 0, 1, 1);
        hoursOf(told("p2000;p2024;q0106;m01;"), 0, 8, 1);
        hoursOf(told("p2000;p2016;q0106;m01;"), 0, 16, 1);
        hoursOf(told("p2000;p2031;q0107;m01;"), 0, 3, 1);
        hoursOf(told("p2000;p2031;q0130;m01;"), 0, 31, 1);
        hoursOf(told("p2000;p2031;q0131;m01;"), 0, 7, 2);
        hoursOf(told("p0000;p1001;q0101;m01;"), 0, 1, 1);
        hoursOf(told("p0000;p1001;q0199;m01;"), 0, 1, 99);
        hoursOf(told("p0000;p0031;q0101;m01;"), 0, 18, 1);

        sentence(22, "-9 alone, or by none; when");
        hoursOf(Scenes.alone(), 0, -9, -9);
        hoursOf(told("p0031;p0031;q0101;"), 0, -9, -9);
        hoursOf(told("p0031;p0000;q0101;m01;"), 0, -9, -9);
        hoursOf(told("p0031;p0000;m01;"), 0, 0, 0);
    }

    private static void p23Swap() {
        sentence(23, "SWAP: two mats (10 the least one of the first mat and the least of the second) that, changing the ones who are not the least,");
        due(told("p0000;p0000;p0000;p0000;q0301;m03;m12;"), 1, "swap");
        due(told("p0000;p0000;p0000;p0000;p0000;p0000;q1401;m14;m35;"), 13, "swap");
        due(told("p0000;p0000;p0000;p0000;p0000;p0000;q4501;m45;m23;"), 24, "swap");
        due(told("p0000;p0000;p0000;p0000;p0000;p0000;q2501;m25;m34;"), 23, "swap");
        inMind(Scenes::full, 2, "swap");

        sentence(23, "make all LIKES (each for his MATE) together most, more than now, of several the first; -9.");
        inMind(Scenes::nobody, -9, "swap");
        inMind(Scenes::lively, -9, "swap");
        due(told("p0000;p0000;p0000;p0000;q0199;m01;"), -9, "swap");
        due(told("p0000;p0000;p0000;p0000;m01;m23;"), -9, "swap");
        due(told("p0000;p0000;p0000;p0000;q0101;m01;m23;"), 2, "swap");
        due(told("p0000;p0000;p0000;p0000;q2301;m01;m23;"), 2, "swap");
        due(told("p0000;p0000;p0000;p0000;q0101;q0301;m01;m23;"), -9, "swap");
        due(told("p0000;p0000;p0000;p0000;q0101;q1201;m01;m23;"), -9, "swap");
        due(told("p0000;p0000;p0000;p0000;q0101;q0299;m01;m23;"), 2, "swap");
        due(told("p0000;p0000;p0000;p0000;q0101;q2301;q0301;m01;m23;"), 2, "swap");
        due(told("p0000;p0000;p0000;p0000;q0301;m03;m12;"), 1, "swap");
        PrayerMatsFace three = told("p0000;p0000;p0000;p0000;p0000;p0000;m01;m23;m45;q0101;q2301;q4501;");
        due(three, 2, "swap");
        three.quarrels(0, 3, 1);
        due(three, 4, "swap");
        three.quarrels(1, 4, 1);
        due(three, 24, "swap");
        three.quarrels(2, 5, 1);
        due(three, 2, "swap");
        due(three, 1, "personOf", 0, 3);
    }

    private static void p24Glad() {
        sentence(24, "GLAD: LIKES for his MATE and 1000 (-9 alone).");
        inMind(Scenes::lively, 1036, "glad", 0);
        inMind(Scenes::lively, 1037, "glad", 1);
        inMind(Scenes::full, -9, "glad", 5);
        inMind(Scenes::alone, -9, "glad", 0);
        due(told("p0000;p3900;q0160;m01;"), 1000, "glad", 0);
        due(told("p0000;p3900;q0199;m01;"), 961, "glad", 0);
        due(told("p0031;p2931;m01;"), 1077, "glad", 0);
        oneRefused("glad");
    }

    private static void whoOf(PrayerMatsFace x, int one, int other, int... want) {
        for (int what = 0; what <= 3; what++) due(x, want[what], "who", one, other, what);
    }

    private static void p25Who() {
        sentence(25, "WHO by the ROW (it stays): KINDS (what 0, bits), FIGURES (1, bits), HOURS: how many (2), the least (3; -9). -1 either (one twice); -2.");
        inMind(Scenes::full, 63, "who", 4, 5, 0);
        inMind(Scenes::full, 1023, "who", 5, 4, 1);
        inMind(Scenes::full, 32, "who", 4, 5, 2);
        inMind(Scenes::full, 0, "who", 4, 5, 3);
        inMind(Scenes::lively, 0, "who", 0, 1, 0);
        inMind(Scenes::lively, 0, "who", 0, 1, 1);
        inMind(Scenes::lively, 0, "who", 0, 1, 2);
        inMind(Scenes::lively, -9, "who", 0, 1, 3);
        twoRefused("who", 0);
        twoRefused("who", 3);
        twoRefused("who", 4);
        for (int what : new int[] {-1, 4, MOST, LEAST}) refused(Scenes::lively, -2, "who", 1, 0, what);

        sentence(25, "WHO: a ROW tells QUARREL of two behind 0, 1, .. DAYS: KINDS (bits) of the first of them by which it is so; FIGURES (bits 0 .. 9); HOURS (0 .. 31): how many; the least; -9.");
        whoOf(Scenes.pair(), 0, 1, 63, 1023, 32, 0);
        whoOf(withRow(Scenes.pair(), 30), 0, 1, 63, 1023, 32, 0);
        whoOf(withRow(Scenes.pair(), 29), 0, 1, 0, 0, 0, -9);
        whoOf(withRow(Scenes.pair(), 31), 0, 1, 0, 0, 0, -9);
        whoOf(withRow(Scenes.pair(), 30, 26), 1, 0, 3, 992, 10, 7);
        whoOf(withRow(Scenes.pair(), 30, 27), 0, 1, 0, 0, 0, -9);
        whoOf(withRow(Scenes.pair(), 30, 26, 22, 18, 14, 10, 6, 2, 0, 0, 0, 0), 0, 1, 17, 1023, 1, 31);
        whoOf(withRow(Scenes.pair(), 30, 26, 22, 18, 14, 10, 6, 2, 0, 0, 0, 1), 0, 1, 0, 0, 0, -9);
        whoOf(withRow(told("p5031;p5031;q0140;m01;"), 40, 0), 0, 1, 32, 1023, 1, 31);
        whoOf(withRow(told("p5031;p1031;q0140;m01;"), 40, 20), 0, 1, 32, 1023, 1, 31);
        whoOf(withRow(told("p3901;p0000;q0140;m01;"), 40, 43), 0, 1, 42, 512, 5, 1);
        whoOf(withRow(told("p0000;p0000;q0140;"), 40, 40), 0, 1, 63, 1023, 32, 0);
        whoOf(withRow(told("p0000;p0000;q0140;"), 40, 39), 0, 1, 0, 0, 0, -9);
    }

    private static PrayerMatsFace withRow(PrayerMatsFace x, int... numbers) {
        row(x, numbers);
        return x;
    }

    private static void p26Ways() {
        sentence(26, "the first pair (10 the first's and the other's, 1 gives way) by which neither has more by another choice alone");
        PrayerMatsFace x = Scenes.pair();
        for (int v = 0; v <= 99; v++) {
            x.quarrels(0, 1, v);
            int want = v <= 5 ? 0 : v <= 18 ? 1 : 11;
            due(x, want, "ways", 0, 1);
            due(x, want, "ways", 1, 0);
        }
        inMind(Scenes::lively, 11, "ways", 0, 1);
        sentence(26, "give way (QUARREL 10 less at once) or not, both at once: each would have most of 20, less QUARREL then, and 8 more, if he does not give way and the other does; 5 less, if he does and the other does not");
        due(waysAt(5), 0, "ways", 0, 1);
        due(waysAt(6), 1, "ways", 0, 1);
        due(waysAt(18), 1, "ways", 0, 1);
        due(waysAt(19), 11, "ways", 0, 1);
        sentence(26, "WAYS; -9. -1 either (one twice).");
        twoRefused("ways");
    }

    private static PrayerMatsFace waysAt(int quarrel) {
        PrayerMatsFace x = Scenes.alike(2);
        x.quarrels(0, 1, quarrel);
        return x;
    }

    private static void awayOf(PrayerMatsFace x, int person, int v, int n, int t, long above, long below) {
        due(x, above, "away", person, 1 - person, v, n, t, 0);
        due(x, below, "away", person, 1 - person, v, n, t, 1);
    }

    private static void p27Away() {
        sentence(27, "AWAY; part 0 above, 1 below the line. Refused as told: -1 either (one twice); -4 (v, n below 0, t below 2); -6 (99; 8; 20); -2.");
        inMind(Scenes::lively, 3, "away", 0, 1, 26, 1, 4, 0);
        inMind(Scenes::lively, 4, "away", 0, 1, 26, 1, 4, 1);
        twoRefused("away", 0, 0, 2, 0);
        twoRefused("away", 99, 8, 20, 1);
        twoRefused("away", -1, -1, 1, 2);
        twoRefused("away", 100, 9, 21, -1);
        int[][] below = {{-1, 0, 2, 0}, {0, -1, 2, 0}, {0, 0, 1, 0}, {0, 0, 0, 1}, {0, 0, -5, 1}, {-1, 9, 21, 2},
            {100, -1, 21, 2}, {100, 9, 1, 2}, {LEAST, 0, 2, 0}, {0, LEAST, 2, 0}, {0, 0, LEAST, 0}};
        for (int[] b : below) refused(Scenes::lively, -4, "away", 0, 1, b[0], b[1], b[2], b[3]);
        int[][] above = {{100, 0, 2, 0}, {0, 9, 2, 0}, {0, 0, 21, 0}, {100, 9, 21, 2}, {100, 0, 2, -1}, {0, 9, 2, 2},
            {0, 0, 21, 2}, {MOST, 0, 2, 0}, {0, MOST, 2, 0}, {0, 0, MOST, 0}};
        for (int[] a : above) refused(Scenes::lively, -6, "away", 1, 0, a[0], a[1], a[2], a[3]);
        for (int part : new int[] {-1, 2, MOST, LEAST}) {
            refused(Scenes::lively, -2, "away", 0, 1, 0, 0, 2, part);
            refused(Scenes::lively, -2, "away", 0, 1, 99, 8, 20, part);
        }
        due(Scenes.lively(), 4000000000000000001L, "away", 0, 0, 0, 0, 2, 0);

        sentence(27, "how likely his QUARREL with another one is v (0 .. 99) or less behind these: a fraction.");
        PrayerMatsFace x = Scenes.pair();
        awayOf(x, 0, 25, 1, 4, 0, 1);
        awayOf(x, 0, 26, 1, 4, 3, 4);
        awayOf(x, 0, 38, 1, 4, 3, 4);
        awayOf(x, 0, 39, 1, 4, 1, 1);
        awayOf(x, 0, 0, 0, 2, 0, 1);
        awayOf(x, 0, 29, 0, 2, 0, 1);
        awayOf(x, 0, 30, 0, 2, 1, 1);
        awayOf(x, 0, 99, 0, 20, 1, 1);
        x.quarrels(0, 1, 99);
        x.joins(0, 1);
        awayOf(x, 0, 98, 8, 20, 0, 1);
        awayOf(x, 0, 99, 8, 20, 1, 1);
        x.quarrels(0, 1, 0);
        awayOf(x, 0, 0, 8, 20, 1, 1);
        PrayerMatsFace atLeast = told("p0031;p0031;m01;");
        awayOf(atLeast, 0, 0, 1, 4, 3, 4);
        awayOf(atLeast, 0, 0, 2, 4, 3, 4);
        awayOf(atLeast, 0, 5, 2, 4, 15, 16);
        awayOf(atLeast, 0, 10, 2, 4, 1, 1);
        PrayerMatsFace atMost = told("p0000;p1001;q0196;m01;");
        awayOf(atMost, 0, 98, 1, 2, 0, 1);
        awayOf(atMost, 0, 99, 1, 2, 1, 1);
        atMost.quarrels(0, 1, 95);
        awayOf(atMost, 0, 97, 1, 2, 0, 1);
        awayOf(atMost, 0, 98, 1, 2, 1, 1);
        awayOf(atMost, 0, 98, 2, 2, 0, 1);
        awayOf(atMost, 0, 99, 8, 2, 1, 1);

        sentence(27, "on each of n DAYS (0 .. 8), by itself, with odds 1 in t (2 .. 20) one does not come at all");
        x = Scenes.pair();
        awayOf(x, 0, 26, 1, 2, 1, 2);
        awayOf(x, 0, 26, 1, 20, 19, 20);
        awayOf(x, 1, 26, 1, 20, 19, 20);
        awayOf(x, 1, 34, 1, 20, 19, 20);
        awayOf(x, 1, 35, 1, 20, 1, 1);
        awayOf(x, 0, 1, 7, 20, 0, 1);
        awayOf(x, 0, 2, 7, 20, 893871739, 1280000000);
        awayOf(x, 0, 0, 8, 20, 16983563041L, 25600000000L);
        awayOf(x, 0, 0, 8, 2, 1, 256);

        sentence(27, "(Fractions are told in lowest terms; 0 as 0 over 1.)");
        awayOf(x, 0, 17, 3, 2, 0, 1);
        awayOf(x, 0, 18, 3, 2, 1, 8);
        awayOf(x, 0, 31, 3, 2, 1, 2);
        awayOf(x, 0, 44, 3, 2, 7, 8);
        awayOf(x, 0, 57, 3, 2, 1, 1);
        awayOf(x, 0, 35, 2, 2, 3, 4);
    }

    public static void main(String[] args) {
        p12Behind();
        p13All();
        p14Mended();
        p15Never();
        p16Turn();
        p17Leaves();
        p18Pairings();
        p19BestPairing();
        p19OfFewer();
        p20Soonest();
        p21MateFor();
        p22HoursFor();
        p23Swap();
        p24Glad();
        p25Who();
        p26Ways();
        p27Away();
        end(12, 27);
    }
}
