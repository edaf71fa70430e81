/** The objects at which the boundary tests begin; each method makes the same one every time. */
final class Scenes {
    private Scenes() {
    }

    static PrayerMatsFace nobody() {
        return new PrayerMatsFace();
    }

    static PrayerMatsFace alone() {
        return Boundary.told("p0431;");
    }

    /** A PERSON who always comes and a MERCHANT at HOURS 0, 2, 4 on one mat: -2, +1, -2, +1, -2 a DAY. */
    static PrayerMatsFace pair() {
        return Boundary.told("p0431;p1721;q0130;m01;");
    }

    /** The same pair on DAY 7 with an image, three changes that can be taken back, a ROW that is so; no letters. */
    static PrayerMatsFace quiet() {
        PrayerMatsFace x = Boundary.told("p0400;p1721;q0111;d07;");
        x.image();
        x.comes(0, 31);
        x.quarrels(0, 1, 30);
        x.joins(0, 1);
        Boundary.row(x, 0, 30);
        return x;
    }

    /** The same, and letters that are a QUARTER. */
    static PrayerMatsFace lively() {
        PrayerMatsFace x = quiet();
        Boundary.feed(x, "q0177;");
        return x;
    }

    /** As many as there can be: 6 PEOPLE, 96 letters, 12 in the ROW, 8 changes that can be taken back, an image. */
    static PrayerMatsFace full() {
        PrayerMatsFace x = Boundary.told("p0431;p1721;p2315;p3607;p4931;p5230;q0130;q2305;m01;m23;d01;");
        x.image();
        for (int other = 2; other <= 5; other++) x.quarrels(0, other, 9 + other);
        x.quarrels(4, 5, 33);
        x.comes(5, 29);
        x.joins(4, 5);
        x.joins(4, 5);
        x.days(1);
        for (int i = 0; i < 12; i++) x.row(33);
        for (int v = 1; v <= 16; v++) Boundary.feed(x, v < 10 ? "q010" + v + ";" : "q01" + v + ";");
        return x;
    }

    /** The pair, their QUARREL mended, on a DAY told, with an image of DAY 0. */
    static PrayerMatsFace onDay(int day) {
        PrayerMatsFace x = pair();
        x.image();
        Boundary.clock(x, day);
        return x;
    }

    /** A MERCHANT and a PERSON whose QUARREL is 1 less by a DAY on one mat. */
    static PrayerMatsFace slow(int quarrel) {
        return Boundary.told(quarrel < 10 ? "p1001;p0001;q010" + quarrel + ";m01;" : "p1001;p0001;q01" + quarrel + ";m01;");
    }

    /** PERSONS of FIGURE 0 who never come: each LIKES each 60. */
    static PrayerMatsFace alike(int people) {
        return people(people, 0, 0);
    }

    /** PERSONS of FIGURE 0 with the same HOURS and all QUARRELS the same, nobody on a mat. */
    static PrayerMatsFace people(int people, int hours, int quarrel) {
        PrayerMatsFace x = new PrayerMatsFace();
        for (int i = 0; i < people; i++) x.person(0, 0, hours);
        for (int one = 0; one < people; one++) {
            for (int other = one + 1; other < people; other++) x.quarrels(one, other, quarrel);
        }
        return x;
    }
}
