/** Promises 28 to 45: each sentence of them, of 'III', 'IV', THE IMAGE and REFUSALS, that names a boundary. */
public final class BoundariesOfTheRestTest extends Boundary {
    private static final int[] OTHERS_THAN_0_1 = {-1, 2, MOST, LEAST};

    private static void p28Fullest() {
        sentence(28, "FULLEST (what 0), how many (1). -2.");
        inMind(Scenes::lively, 0, "fullest", 0);
        inMind(Scenes::lively, 2, "fullest", 1);
        for (int what : OTHERS_THAN_0_1) refused(Scenes::lively, -2, "fullest", what);

        sentence(28, "FULLEST: the HOUR at which most come, of several the least; how many.");
        fullestOf(Scenes.nobody(), 0, 0);
        fullestOf(Scenes.alike(6), 0, 0);
        fullestOf(told("p0001;"), 0, 1);
        fullestOf(told("p0002;"), 1, 1);
        fullestOf(told("p0016;"), 4, 1);
        fullestOf(told("p0031;"), 0, 1);
        fullestOf(told("p0024;p0008;p0016;"), 3, 2);
        fullestOf(told("p0024;p0008;p0016;p0016;"), 4, 3);
        fullestOf(told("p0016;p0016;p0016;p0016;p0016;p0016;"), 4, 6);
    }

    private static void fullestOf(PrayerMatsFace x, int hour, int many) {
        due(x, hour, "fullest", 0);
        due(x, many, "fullest", 1);
    }

    private static void p29Charmer() {
        sentence(29, "CHARMER: the one with most CHARM, of several the least; -9.");
        inMind(Scenes::nobody, -9, "charmer");
        inMind(Scenes::alone, 0, "charmer");
        due(told("p3000;"), 0, "charmer");
        due(told("p3000;p3900;"), 0, "charmer");
        due(told("p0900;p5000;p0900;"), 0, "charmer");
        due(told("p0800;p5000;p0900;"), 1, "charmer");
        due(told("p0800;p0800;p0800;p0800;p0800;p0900;"), 5, "charmer");
    }

    private static void p30Friends() {
        sentence(30, "FRIENDS: how many twos LIKE each other 60 or more.");
        inMind(Scenes::nobody, 0, "friends");
        inMind(Scenes::alone, 0, "friends");
        inMind(Scenes::lively, 0, "friends");
        due(told("p0000;p0000;"), 1, "friends");
        due(told("p0000;p0000;q0101;"), 0, "friends");
        due(told("p0001;p0001;q0101;"), 1, "friends");
        due(told("p0001;p0001;q0102;"), 0, "friends");
        due(told("p0100;p0000;q0101;"), 0, "friends");
        due(told("p0000;p0100;q0101;"), 0, "friends");
        due(told("p0100;p0100;q0101;"), 1, "friends");
        due(Scenes.alike(6), 15, "friends");
    }

    private static void p31Chain() {
        sentence(31, "CHAIN: going from one to whom he LIKES most of the others (of several the least), on and on: how many there are till one comes again (he counted).");
        inMind(Scenes::alone, 1, "chain", 0);
        inMind(Scenes::lively, 2, "chain", 0);
        due(Scenes.alike(3), 2, "chain", 0);
        due(Scenes.alike(3), 2, "chain", 1);
        due(Scenes.alike(3), 3, "chain", 2);
        due(Scenes.alike(6), 3, "chain", 5);
        PrayerMatsFace line = Scenes.people(6, 0, 50);
        for (int one = 0; one < 5; one++) line.quarrels(one, one + 1, 5 - one);
        for (int one = 0; one < 5; one++) due(line, 6 - one, "chain", one);
        due(line, 2, "chain", 5);
        sentence(31, "CHAIN. -1.");
        oneRefused("chain");
    }

    private static void p32Lonely() {
        sentence(32, "LONELY: those (bits) alone whom nobody WOULD RATHER than whom that one has.");
        inMind(Scenes::nobody, 0, "lonely");
        inMind(Scenes::alone, 1, "lonely");
        inMind(Scenes::lively, 0, "lonely");
        due(told("p0000;p0000;q0110;"), 0, "lonely");
        due(told("p0000;p0000;q0111;"), 3, "lonely");
        due(told("p0000;p0100;q0111;"), 1, "lonely");
        due(told("p0100;p0000;q0111;"), 2, "lonely");
        due(told("p0000;p0000;p0000;m01;"), 4, "lonely");
        due(told("p0000;p0000;p0000;q0101;m01;"), 0, "lonely");
        due(told("p0000;p0000;p0000;q0101;q0201;m01;"), 0, "lonely");
        due(told("p0000;p0000;p0000;q0101;q0201;q1201;m01;"), 4, "lonely");
        due(told("p0000;p0000;q0199;m01;"), 0, "lonely");
        PrayerMatsFace foes = Scenes.people(6, 0, 11);
        due(foes, 63, "lonely");
        foes.quarrels(0, 5, 10);
        due(foes, 30, "lonely");
    }

    private static void p33Spread() {
        sentence(33, "SPREAD: the greatest QUARREL of all twos less the least (0 fewer than two).");
        inMind(Scenes::nobody, 0, "spread");
        inMind(Scenes::alone, 0, "spread");
        inMind(Scenes::lively, 0, "spread");
        due(Scenes.alike(2), 0, "spread");
        due(Scenes.alike(6), 0, "spread");
        due(told("p0000;p0000;q0199;"), 0, "spread");
        due(told("p0000;p0000;p0000;q0199;"), 99, "spread");
        due(told("p0000;p0000;p0000;q0199;q0299;q1299;"), 0, "spread");
        due(told("p0000;p0000;p0000;q0199;q0299;q1298;"), 1, "spread");
        due(told("p0000;p0000;p0000;q0101;q0205;q1203;"), 4, "spread");
    }

    private static void meanOf(PrayerMatsFace x, long above, long below) {
        due(x, above, "mean", 0);
        due(x, below, "mean", 1);
    }

    private static void p34Mean() {
        sentence(34, "MEAN QUARREL; part likewise. Refused as told: -2.");
        inMind(Scenes::lively, 30, "mean", 0);
        inMind(Scenes::lively, 1, "mean", 1);
        for (int part : OTHERS_THAN_0_1) refused(Scenes::lively, -2, "mean", part);
        refused(Scenes::nobody, -2, "mean", 2);
        due(Scenes.lively(), 4000000000000000002L, "mean", 2);

        sentence(34, "MEAN QUARREL of all twos: a fraction (0 over 1 of none).");
        meanOf(Scenes.nobody(), 0, 1);
        meanOf(Scenes.alone(), 0, 1);
        meanOf(Scenes.alike(2), 0, 1);
        meanOf(Scenes.alike(6), 0, 1);
        PrayerMatsFace x = Scenes.alike(6);
        x.quarrels(4, 5, 1);
        meanOf(x, 1, 15);
        x.quarrels(4, 5, 99);
        meanOf(x, 33, 5);
        x.quarrels(0, 1, 51);
        meanOf(x, 10, 1);
        meanOf(Scenes.people(6, 0, 99), 99, 1);
    }

    private static void p35Enemy() {
        sentence(35, "ENEMY of one: with whom his QUARREL is greatest, of several the least; -9.");
        inMind(Scenes::alone, -9, "enemy", 0);
        inMind(Scenes::lively, 1, "enemy", 0);
        inMind(Scenes::lively, 0, "enemy", 1);
        due(Scenes.alike(3), 1, "enemy", 0);
        due(Scenes.alike(3), 0, "enemy", 1);
        due(Scenes.alike(3), 0, "enemy", 2);
        due(told("p0000;p0000;p0000;q0201;"), 2, "enemy", 0);
        due(told("p0000;p0000;p0000;q0101;q0201;"), 1, "enemy", 0);
        due(told("p0000;p0000;p0000;q0101;q0202;q1209;"), 2, "enemy", 0);
        sentence(35, "ENEMY; -9. -1.");
        oneRefused("enemy");
    }

    private static void p36Peace() {
        sentence(36, "PEACE: the first n (0 .. 99) behind which all QUARRELS on mats are 0; -9.");
        inMind(Scenes::nobody, 0, "peace");
        inMind(Scenes::lively, 8, "peace");
        inMind(() -> Scenes.slow(0), 0, "peace");
        inMind(() -> Scenes.slow(1), 1, "peace");
        inMind(() -> Scenes.slow(99), 99, "peace");
        due(told("p0000;p0000;q0199;"), 0, "peace");
        due(told("p0000;p0000;q0101;m01;"), -9, "peace");
        due(told("p1031;p0000;m01;"), 0, "peace");
        PrayerMatsFace foes = Scenes.people(6, 0, 99);
        due(foes, 0, "peace");
        foes.quarrels(2, 3, 0);
        foes.joins(2, 3);
        due(foes, 0, "peace");
        foes.quarrels(2, 3, 1);
        due(foes, -9, "peace");
        due(told("p0031;p0031;p0031;p0031;q0130;q2340;m01;m23;"), 4, "peace");
        due(told("p0031;p0031;p0031;p0031;q0141;q2340;m01;m23;"), 5, "peace");
        due(told("p0031;p0031;p1031;p0000;q0110;m01;m23;"), -9, "peace");
    }

    private static void p37Helps() {
        sentence(37, "HELPS. Refused as told: -1 either; -4; -6 99.");
        inMind(Scenes::lively, 6, "helps", 1, 1, 2);
        inMind(Scenes::lively, 0, "helps", 0, 0, 2);
        inMind(Scenes::lively, 0, "helps", 0, 4, 99);
        oneRefused("helps", 0, 0);
        oneRefused("helps", 5, -1);
        oneRefused("helps", -1, 100);
        for (int hour : new int[] {-1, 5, MOST, LEAST}) {
            refused(Scenes::lively, -1, "helps", 0, hour, 0);
            refused(Scenes::lively, -1, "helps", 0, hour, -1);
            refused(Scenes::lively, -1, "helps", 0, hour, 100);
        }
        refused(Scenes::alone, -1, "helps", 0, 5, 0);
        refused(Scenes::lively, -4, "helps", 0, 0, -1);
        refused(Scenes::lively, -4, "helps", 1, 4, LEAST);
        refused(Scenes::alone, -4, "helps", 0, 0, -1);
        refused(Scenes::lively, -6, "helps", 0, 0, 100);
        refused(Scenes::lively, -6, "helps", 1, 4, MOST);
        refused(Scenes::alone, -6, "helps", 0, 0, 100);
        due(Scenes.lively(), 1000000001, "helps", 2, 0, 0);
        due(Scenes.lively(), 1000000004, "helps", 0, 0, -1);
        due(Scenes.lively(), 1000000006, "helps", 0, 0, 100);

        sentence(37, "HELPS: by how much less QUARREL with his MATE is behind n DAYS, came he at a told HOUR, too (may be below 0; 0 alone).");
        PrayerMatsFace x = Scenes.pair();
        due(x, 0, "helps", 1, 1, 0);
        due(x, 3, "helps", 1, 1, 1);
        due(x, 10, "helps", 1, 3, 5);
        due(x, 0, "helps", 1, 1, 99);
        x.comes(0, 21);
        due(x, -3, "helps", 1, 1, 1);
        due(x, -6, "helps", 1, 1, 2);
        x.joins(0, 1);
        due(x, 0, "helps", 1, 1, 2);
        due(Scenes.alone(), 0, "helps", 0, 0, 99);
        due(told("p0000;p0031;q0150;m01;"), 3, "helps", 0, 0, 1);
        due(told("p0000;p0031;q0150;m01;"), 3, "helps", 0, 4, 1);
        due(told("p0000;p0031;q0199;m01;"), 0, "helps", 0, 0, 1);
        due(told("p0000;p0031;q0199;m01;"), 2, "helps", 0, 4, 1);
        due(Scenes.slow(99), -95, "helps", 0, 1, 95);
        due(Scenes.slow(99), -99, "helps", 0, 1, 99);
    }

    private static void p38Doubled() {
        sentence(38, "DOUBLE: the HOUR at which, were it held twice a DAY (once more behind the others), all QUARRELS are least behind 9 DAYS, of several the least.");
        inMind(Scenes::nobody, 0, "doubled");
        inMind(Scenes::alone, 0, "doubled");
        inMind(Scenes::lively, 0, "doubled");
        due(told("p0031;p0031;q0199;"), 0, "doubled");
        due(told("p0031;p0031;p0001;q0199;m01;"), 0, "doubled");
        due(told("p0016;p0016;q0199;m01;"), 4, "doubled");
        due(told("p0024;p0024;q0199;m01;"), 3, "doubled");
        due(told("p0015;p0000;q0150;m01;"), 4, "doubled");
        due(told("p0012;p0004;q0103;m01;"), 2, "doubled");
        due(told("p2001;p0001;p2002;p0002;q0171;q2399;m01;m23;"), 1, "doubled");
        due(told("p2001;p0001;p2002;p0002;q0172;q2399;m01;m23;"), 0, "doubled");
        due(told("p2001;p0001;p2002;p0002;q0164;q2399;m01;m23;"), 1, "doubled");
    }

    private static void p39Row() {
        sentence(39, "A number more of the ROW: how many. -4; -6 (99; 12, too).");
        due(Scenes.lively(), 3, "row", 0);
        due(Scenes.lively(), 3, "row", 99);
        refused(Scenes::lively, -4, "row", -1);
        refused(Scenes::lively, -4, "row", LEAST);
        refused(Scenes::lively, -6, "row", 100);
        refused(Scenes::lively, -6, "row", MOST);
        refused(Scenes::full, -6, "row", 33);
        refused(Scenes::full, -6, "row", 0);
        refused(Scenes::full, -6, "row", 100);
        refused(Scenes::full, -4, "row", -1);

        sentence(39, "A ROW of numbers (0 .. 99; 12 at most)");
        PrayerMatsFace x = Scenes.alike(2);
        x.quarrels(0, 1, 7);
        for (int number = 1; number <= 11; number++) due(x, number, "row", 7);
        due(x, 63, "who", 0, 1, 0);
        due(x, 12, "row", 8);
        due(x, -6, "row", 7);
        due(x, 12, "count", 6);
        due(x, 0, "who", 0, 1, 0);
    }

    private static void judged(int want, int person, int... numbers) {
        PrayerMatsFace x = told("p0000;p0000;p0000;q0130;q0207;q1299;");
        row(x, numbers);
        due(x, want, "judge", person);
        due(x, 0, "count", 6);
        due(x, 1, "row", 0);
    }

    private static void p40Judge() {
        sentence(40, "JUDGED; -9 (whichever it answers, the ROW has none then). -1 (it stays).");
        due(Scenes.lively(), -9, "judge", 0);
        due(Scenes.lively(), 0, "judge", 1);
        oneRefused("judge");

        sentence(40, "JUDGED: QUARRELS of one with PEOPLE 0, 1, .. (0 with himself): the first that is not so (nobody there, too); -9.");
        judged(-9, 0);
        judged(-9, 0, 0);
        judged(0, 0, 1);
        judged(-9, 0, 0, 30);
        judged(1, 0, 0, 29);
        judged(1, 0, 0, 31);
        judged(-9, 0, 0, 30, 7);
        judged(2, 0, 0, 30, 8);
        judged(3, 0, 0, 30, 7, 0);
        judged(3, 0, 0, 30, 7, 0, 0, 0, 0, 0, 0, 0, 0, 0);
        judged(1, 0, 0, 99, 8, 0);
        judged(-9, 1, 30, 0, 99);
        judged(1, 1, 30, 1, 99);
        judged(-9, 2, 7, 99, 0);
        judged(2, 2, 7, 99, 99);
        PrayerMatsFace six = Scenes.alike(6);
        row(six, 0, 0, 0, 0, 0, 0);
        due(six, -9, "judge", 5);
        row(six, 0, 0, 0, 0, 0, 0, 0);
        due(six, 6, "judge", 5);
    }

    private static void p41Clear() {
        sentence(41, "The ROW has none then: how many it had.");
        due(Scenes.nobody(), 0, "clear");
        PrayerMatsFace x = Scenes.full();
        due(x, 12, "clear");
        due(x, 0, "count", 6);
        due(x, 0, "clear");
        due(x, 1, "row", 99);
        due(x, 1, "clear");
        PrayerMatsFace y = Scenes.lively();
        due(y, 2, "clear");
        due(y, -9, "judge", 1);
    }

    private static PrayerMatsFace apart(int quarrel) {
        PrayerMatsFace x = Scenes.slow(quarrel);
        x.joins(0, 1);
        return x;
    }

    private static void p42Lots() {
        sentence(42, "LOTS: QUARRELS (what 0), how many are 0 (1). -4; -6 20; -2.");
        inMind(Scenes::lively, 0, "lots", 1, 3, 0);
        inMind(Scenes::lively, 20, "lots", 20, 3, 1);
        for (int n : new int[] {0, -1, LEAST}) {
            refused(Scenes::lively, -4, "lots", n, 0, 0);
            refused(Scenes::lively, -4, "lots", n, 0, 2);
        }
        for (int n : new int[] {21, MOST}) {
            refused(Scenes::lively, -6, "lots", n, 0, 0);
            refused(Scenes::lively, -6, "lots", n, 0, -1);
        }
        for (int what : OTHERS_THAN_0_1) {
            refused(Scenes::lively, -2, "lots", 1, 0, what);
            refused(Scenes::lively, -2, "lots", 20, 0, what);
        }
        refused(Scenes::nobody, -4, "lots", 0, 0, 0);
        refused(Scenes::nobody, -6, "lots", 21, 0, 0);
        refused(Scenes::nobody, -2, "lots", 1, 0, 2);

        sentence(42, "(0 without PEOPLE.)");
        inMind(Scenes::nobody, 0, "lots", 20, LEAST, 0);
        inMind(Scenes::nobody, 0, "lots", 20, MOST, 1);
        inMind(Scenes::alone, 0, "lots", 20, LEAST, 0);
        inMind(Scenes::alone, 0, "lots", 20, MOST, 1);
    }

    // The DAYS that go by ahead of the first DRAW of two who are two were counted apart from this program.
    private static void p42Draws() {
        sentence(42, "DRAWS: z becomes z times 1103515245 plus 12345 (an int, wrapping); a DRAW below n is (z without its sign's bit, over 65536, cut) modulo n.");
        int[][] waits = {{0, 1}, {1, 3}, {2, 0}, {3, 1}, {4, 0}, {7, 7}, {12, 3}, {-1, 2}, {-2, 0}, {-5, 0},
            {MOST, 2}, {LEAST, 1}, {LEAST + 1, 3}, {123456789, 0}, {-987654321, 0}};
        for (int[] w : waits) due(apart(99), 69 + w[1], "lots", 1, w[0], 0);
        int[][] ofSix = {{0, 1389}, {1, 1361}, {-1, 1405}, {7, 1395}, {LEAST, 1389}, {MOST, 1405}};
        for (int[] s : ofSix) due(Scenes.people(6, 1, 99), s[1], "lots", 1, s[0], 0);
        int[][] ofFive = {{0, 892}, {1, 902}, {-1, 906}, {7, 918}};
        for (int[] s : ofFive) due(Scenes.people(5, 1, 99), s[1], "lots", 1, s[0], 0);

        sentence(42, "n years (1 .. 20), each from now");
        due(apart(99), 70, "lots", 1, 3, 0);
        due(apart(99), 151, "lots", 2, 3, 0);
        due(apart(99), 220, "lots", 3, 3, 0);
        PrayerMatsFace again = apart(99);
        due(again, 151, "lots", 2, 3, 0);
        due(again, 151, "lots", 2, 3, 0);
        due(again, 0, "lots", 20, 3, 1);
        again.quarrels(0, 1, 9);
        due(again, 20, "lots", 20, 4, 1);
        due(again, 20, "lots", 20, 4, 1);
        due(Scenes.people(6, 1, 4), 274, "lots", 20, 7, 0);
        due(Scenes.people(6, 1, 4), 208, "lots", 20, 7, 1);

        sentence(42, "30 DAYS, ahead of each two are put on one mat (as \"m\", but never taken apart)");
        due(apart(30), 0, "lots", 1, 2, 0);
        due(apart(30), 1, "lots", 1, 2, 1);
        due(apart(31), 1, "lots", 1, 2, 0);
        due(apart(31), 0, "lots", 1, 2, 1);
        for (int z = 0; z < 8; z++) due(Scenes.slow(99), 69, "lots", 1, z, 0);
        PrayerMatsFace late = Scenes.onDay(999);
        late.quarrels(0, 1, 99);
        due(late, 0, "lots", 1, 0, 0);
        due(late, 1, "lots", 1, 0, 1);
        due(Scenes.people(3, 1, 99), 241, "lots", 1, 0, 0);
        due(Scenes.people(4, 1, 99), 514, "lots", 1, 0, 0);
        due(Scenes.people(4, 1, 4), 5, "lots", 1, 0, 1);
    }

    private static void p43Image() {
        sentence(43, "THE IMAGE is taken: DAY.");
        due(Scenes.nobody(), 0, "image");
        due(Scenes.lively(), 7, "image");
        due(Scenes.onDay(999), 999, "image");
        PrayerMatsFace x = Scenes.quiet();
        due(x, 7, "image");
        due(x, 3, "count", 7);
        due(x, 2, "count", 6);
        x.days(1);
        due(x, 7, "restore");
        due(x, 30, "between", 0, 1, 0);
        due(x, 31, "personOf", 0, 2);
        due(x, 1, "personOf", 0, 3);
        x.days(2);
        due(x, 9, "image");
        due(x, 9, "restore");
        due(x, 22, "between", 0, 1, 0);
    }

    private static void p44Restore() {
        sentence(44, "It is RESTORED: DAY. -3 there is none.");
        refused(Scenes::nobody, -3, "restore");
        refused(Scenes::pair, -3, "restore");
        refused(() -> changed(Scenes.pair()), -3, "restore");
        due(Scenes.lively(), 7, "restore");
        due(Scenes.full(), 1, "restore");

        sentence(44, "THE IMAGE: all that there is of I, but it, letters, the ROW, REFUSALS.");
        PrayerMatsFace x = Scenes.full();
        x.personOf(6, 0);
        x.restore();
        due(x, 6, "count", 0);
        due(x, 1, "count", 1);
        due(x, 2, "count", 2);
        due(x, 26, "count", 3);
        due(x, 24, "count", 4);
        due(x, 96, "count", 5);
        due(x, 12, "count", 6);
        due(x, 0, "count", 7);
        due(x, 1, "count", 11);
        due(x, 16, "quarter");
        due(x, 16, "between", 0, 1, 0);
        due(x, 1, "restore");
        due(x, 26, "between", 0, 1, 0);
        PrayerMatsFace fewer = Scenes.nobody();
        fewer.image();
        say(fewer, "p0000;p0000;q0155;m01;d01;");
        due(fewer, 0, "restore");
        due(fewer, 0, "count", 0);
        due(fewer, 0, "count", 1);
        due(fewer, 0, "count", 2);
        due(fewer, 0, "count", 3);
        due(fewer, 0, "person", 5, 9, 31);
        due(fewer, 1, "person", 5, 9, 31);
        due(fewer, 0, "between", 0, 1, 0);
        due(fewer, -9, "personOf", 0, 3);
        due(fewer, -9, "personOf", 1, 3);
    }

    private static PrayerMatsFace changed(PrayerMatsFace x) {
        x.days(3);
        x.comes(0, 1);
        x.row(7);
        x.feed('m');
        return x;
    }

    private static void p45Count() {
        sentence(45, "0 PEOPLE, 1 DAY, 2 mats that hold two, 3 all QUARRELS, 4 all who come to all HOURS, 5 letters, 6 in the ROW, 7 what can be TAKEN BACK, 11 .. 16 REFUSALS -1 .. -6. -9 for another what.");
        long[] ofFull = {6, 2, 2, 22 + 11 + 12 + 13 + 14 + 33, 24, 96, 12, 8};
        for (int what = 0; what <= 7; what++) inMind(Scenes::full, ofFull[what], "count", what);
        for (int what = 11; what <= 16; what++) inMind(Scenes::full, 0, "count", what);
        for (int what : new int[] {-1, -9, 8, 9, 10, 17, 18, 100, MOST, LEAST}) inMind(Scenes::full, -9, "count", what);
        PrayerMatsFace x = Scenes.nobody();
        x.personOf(0, 0);
        for (int i = 0; i < 2; i++) x.leaves(3);
        for (int i = 0; i < 3; i++) x.back();
        for (int i = 0; i < 4; i++) x.days(0);
        for (int i = 0; i < 6; i++) x.row(100);
        long[] refusals = {1, 2, 3, 4, 0, 6};
        for (int what = 11; what <= 16; what++) due(x, refusals[what - 11], "count", what);

        sentence(45, "(the call answers the number, the first that fits in the order in which it tells them; nothing changes but how many there were)");
        x.turn(0, 1);
        x.helps(0, 0, -1);
        x.away(0, 1, -1, -1, -1, -1);
        x.mean(2);
        long[] then = {4, 3, 3, 4, 0, 6};
        for (int what = 11; what <= 16; what++) due(x, then[what - 11], "count", what);
        for (int what = 0; what <= 7; what++) due(x, 0, "count", what);
    }

    public static void main(String[] args) {
        p28Fullest();
        p29Charmer();
        p30Friends();
        p31Chain();
        p32Lonely();
        p33Spread();
        p34Mean();
        p35Enemy();
        p36Peace();
        p37Helps();
        p38Doubled();
        p39Row();
        p40Judge();
        p41Clear();
        p42Lots();
        p42Draws();
        p43Image();
        p44Restore();
        p45Count();
        end(28, 45);
    }
}
