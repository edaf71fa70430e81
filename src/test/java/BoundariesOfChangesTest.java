/** Promises 1 to 11: each sentence of them, and of 'Terms', that names a boundary. */
public final class BoundariesOfChangesTest extends Boundary {
    private static void p1New() {
        sentence(1, "Nobody.");
        PrayerMatsFace x = Scenes.nobody();
        for (int what = 0; what <= 7; what++) due(x, 0, "count", what);
        for (int what = 11; what <= 16; what++) due(x, 0, "count", what);
        refused(Scenes::nobody, -1, "personOf", 0, 0);
        refused(Scenes::nobody, -1, "between", 0, 1, 0);
        due(x, 0, "person", 0, 0, 0);
        due(Scenes.nobody(), 0, "count", 0);

        sentence(1, "a MATE on his mat (somebody whose MATE he is) or nobody (at first)");
        for (int person = 0; person < 6; person++) due(Scenes.alike(6), -9, "personOf", person, 3);

        sentence(1, "QUARREL of each two (0 .. 99; 0 at first)");
        for (int one = 0; one < 6; one++) {
            for (int other = 0; other < 6; other++) {
                if (one != other) due(Scenes.alike(6), 0, "between", one, other, 0);
            }
        }

        sentence(1, "DAY (0 .. 999; 0 at first)");
        due(Scenes.nobody(), 0, "count", 1);
        due(Scenes.nobody(), 0, "image");

        sentence(1, "An object is used for at most 512 calls after it has been made");
        PrayerMatsFace used = Scenes.nobody();
        for (int call = 1; call <= 509; call++) due(used, -3, "back");
        due(used, 0, "person", 0, 4, 31);
        due(used, 509, "count", 13);
        due(used, 31, "personOf", 0, 2);
    }

    private static void p2Feed() {
        sentence(2, "A letter comes: how many there are.");
        PrayerMatsFace x = Scenes.nobody();
        due(x, 1, "feed", 'd');
        due(x, 2, "feed", '0');
        due(x, 3, "feed", '1');
        due(x, 4, "feed", ';');
        due(x, 4, "count", 5);
        due(x, 1, "quarter");
        due(x, 1, "count", 1);
        due(x, 1, "feed", 'd');

        sentence(2, "-4; -6 (255; 96, too).");
        due(Scenes.nobody(), 1, "feed", 0);
        refused(Scenes::lively, -4, "feed", -1);
        refused(Scenes::lively, -4, "feed", LEAST);
        due(Scenes.nobody(), 1, "feed", 255);
        refused(Scenes::lively, -6, "feed", 256);
        refused(Scenes::lively, -6, "feed", MOST);
        refused(Scenes::full, -6, "feed", 'd');
        refused(Scenes::full, -6, "feed", 0);
        refused(Scenes::full, -6, "feed", 255);
        refused(Scenes::full, -6, "feed", 256);
        refused(Scenes::full, -4, "feed", -1);

        sentence(2, "A QUARTER is told in letters, one by one (96 at most)");
        PrayerMatsFace most = Scenes.nobody();
        for (int number = 1; number <= 96; number++) due(most, number, "feed", "d01;".charAt((number - 1) % 4));
        due(most, -6, "feed", ';');
        due(most, 96, "count", 5);
        due(most, 24, "quarter");
        due(most, 24, "count", 1);
        due(most, 0, "count", 5);
        due(most, 1, "feed", ';');
    }

    private static final String[] FORMS = {"p0000;", "h000;", "q0100;", "m01;", "d01;"};

    private static void p3FaultsOfKind1() {
        sentence(3, "At least one STATEMENT.");
        faulty(Scenes::quiet, -1000, "");
        faulty(Scenes::quiet, -1000, ";");
        for (String form : FORMS) due(toldLetters(form), 1, "quarter");

        sentence(3, "FAULT: kind 1 the place of the first letter with which no QUARTER can go on (the end, if something lacks): -1000 less the place");
        for (String letter : new String[] {"P", "D", "o", "r", "g", "i", "n", "l", "c", "e", "0", "9", " ", ":", "<"}) {
            faulty(Scenes::quiet, -1000, letter + "0000;");
            faulty(Scenes::quiet, -1004, "m01;" + letter);
        }
        for (String form : FORMS) faultsOfForm("", form);
        for (String form : FORMS) faultsOfForm("d01;m10;", form);
        for (int letter : new int[] {0, 10, 127, 128, 255}) {
            PrayerMatsFace x = Scenes.quiet();
            feed(x, "m01;");
            x.feed(letter);
            due(x, -1004, "quarter");
        }
        String of92 = "d01;".repeat(23);
        faulty(Scenes::quiet, -1095, of92 + "d01:");
        faulty(Scenes::quiet, -1092, of92 + "x01;");
        faulty(Scenes::quiet, -1096, of92 + "q010");
        faulty(Scenes::quiet, -1095, of92 + "d01");
        due(toldLetters(of92 + "d01;"), 24, "quarter");
    }

    private static PrayerMatsFace toldLetters(String letters) {
        PrayerMatsFace x = Scenes.quiet();
        feed(x, letters);
        return x;
    }

    /** Every digit on both sides of 0 .. 9, every place too short, the sign behind on both sides of ";". */
    private static void faultsOfForm(String ahead, String form) {
        int end = form.length() - 1;
        for (int place = 1; place < end; place++) {
            for (String letter : new String[] {"/", ":", ";", "p", " "}) {
                String text = ahead + form.substring(0, place) + letter + form.substring(place + 1);
                faulty(Scenes::quiet, -1000 - ahead.length() - place, text);
            }
        }
        for (String letter : new String[] {":", "<", "0", "9", "d"}) {
            String text = ahead + form.substring(0, end) + letter + form.substring(end);
            faulty(Scenes::quiet, -1000 - ahead.length() - end, text);
        }
        for (int length = ahead.isEmpty() ? 0 : 1; length <= end; length++) {
            faulty(Scenes::quiet, -1000 - ahead.length() - length, ahead + form.substring(0, length));
        }
    }

    private static void good(String letters, int statements) {
        due(toldLetters(letters), statements, "quarter");
    }

    private static void badFirst(String letters) {
        faulty(Scenes::quiet, -2000, letters);
        faulty(Scenes::quiet, -2008, "m01;m10;" + letters);
    }

    private static void p3FaultsOfKind2() {
        sentence(3, "a number out of range");
        good("p0000;", 1);
        good("p5000;", 1);
        badFirst("p6000;");
        badFirst("p9000;");
        good("p0900;", 1);
        good("p0031;", 1);
        badFirst("p0032;");
        badFirst("p0099;");
        good("h000;", 1);
        good("h131;", 1);
        badFirst("h132;");
        badFirst("h199;");
        good("q0100;", 1);
        good("q0199;", 1);
        good("d01;", 1);
        good("d60;", 1);
        badFirst("d00;");
        badFirst("d61;");
        badFirst("d99;");

        sentence(3, "no such one, one twice");
        good("h000;h100;", 2);
        badFirst("h200;");
        badFirst("h900;");
        good("q0100;q1000;", 2);
        badFirst("q0200;");
        badFirst("q2000;");
        badFirst("q0000;");
        badFirst("q1100;");
        badFirst("q9900;");
        good("m01;m10;", 2);
        badFirst("m02;");
        badFirst("m20;");
        badFirst("m00;");
        badFirst("m11;");

        sentence(3, "DAY above 999, no room");
        dayOfQuarter(939, "d60;", 1);
        dayOfQuarter(940, "d60;", -2000);
        dayOfQuarter(940, "d59;", 1);
        dayOfQuarter(998, "d01;", 1);
        dayOfQuarter(998, "d02;", -2000);
        dayOfQuarter(998, "d01;d01;", -2004);
        dayOfQuarter(999, "d01;", -2000);
        dayOfQuarter(999, "q0150;m01;", 2);
        good("p0000;p0000;p0000;p0000;", 4);
        faulty(Scenes::quiet, -2024, "p0000;p0000;p0000;p0000;p0000;");
    }

    private static void dayOfQuarter(int day, String letters, int want) {
        PrayerMatsFace x = Scenes.onDay(day);
        feed(x, letters);
        due(x, want, "quarter");
        int days = want == 1 ? 10 * (letters.charAt(1) - '0') + letters.charAt(2) - '0' : 0;
        due(x, day + days, "count", 1);
    }

    private static void p3OrderOfFaults() {
        sentence(3, "else kind 2 the place of the first letter of the first STATEMENT that, behind all ahead of it in the text, is not as it must be");
        faulty(Scenes::quiet, -1004, "m00;x");
        faulty(Scenes::quiet, -1007, "m00;d01");
        faulty(Scenes::quiet, -2000, "m00;d00;");
        faulty(Scenes::quiet, -2004, "m01;d00;m00;");
        good("p0000;h200;q0210;m21;", 4);
        faulty(Scenes::quiet, -2000, "h200;p0000;");
        faulty(Scenes::quiet, -2006, "p0000;m23;p0000;");
        good("p0000;p0000;m23;", 3);
        faulty(Scenes::quiet, -2092, "d01;".repeat(23) + "d00;");

        sentence(3, "Without FAULT all of it comes, with one nothing.");
        faulty(Scenes::quiet, -1006, "h130;p");
        faulty(Scenes::quiet, -1020, "p0000;q0255;m02;d09;x");
        faulty(Scenes::quiet, -2020, "p0000;q0255;m02;d09;m22;");
        faulty(Scenes::quiet, -2005, "h130;p6000;");
        PrayerMatsFace all = told("p2315;p3607;q0199;h031;m01;d02;p5931;m02;");
        due(all, 3, "count", 0);
        due(all, 31, "personOf", 0, 2);
        due(all, 69, "between", 0, 1, 0);
        due(all, 2, "count", 1);
        due(all, 2, "personOf", 0, 3);
        due(all, -9, "personOf", 1, 3);
        due(all, 0, "personOf", 2, 3);
    }

    private static void p3Rest() {
        sentence(3, "The letters, which are no more then (with a FAULT neither), are a QUARTER: how many STATEMENTS; the FAULT (nothing is counted).");
        PrayerMatsFace x = Scenes.lively();
        due(x, 1, "quarter");
        due(x, 0, "count", 5);
        due(x, -1000, "quarter");
        feed(x, "m01");
        due(x, -1003, "quarter");
        due(x, 0, "count", 5);
        feed(x, "m00;");
        due(x, -2000, "quarter");
        due(x, 0, "count", 5);
        for (int what = 11; what <= 16; what++) due(x, 0, "count", what);
        due(x, 77, "between", 0, 1, 0);
        due(x, 2, "count", 6);

        sentence(3, "they are on one mat (who was with them is alone), or, if they are already, not any more");
        PrayerMatsFace four = told("p0000;p0000;p0000;p0000;m01;m23;m12;");
        due(four, 1, "count", 2);
        due(four, -9, "personOf", 0, 3);
        due(four, 2, "personOf", 1, 3);
        due(four, -9, "personOf", 3, 3);
        due(told("p0000;p0000;m01;m10;"), 0, "count", 2);
        due(told("p0000;p0000;m01;m01;m01;"), 1, "count", 2);
    }

    private static void p4PersonOf() {
        sentence(4, "Of one: KIND (what 0), FIGURE (1), HOURS (2, bits), MATE (3; -9), SOFT (4), SORE (5), CHARM (6). -1; -2.");
        long[] of5 = {5, 2, 29, -9, 4, 0, 9};
        for (int what = 0; what <= 6; what++) inMind(Scenes::full, of5[what], "personOf", 5, what);
        refused(Scenes::full, -1, "personOf", 6, 0);
        refused(Scenes::full, -1, "personOf", -1, 0);
        refused(Scenes::full, -1, "personOf", MOST, 6);
        refused(Scenes::full, -1, "personOf", LEAST, 6);
        refused(Scenes::lively, -1, "personOf", 2, 0);
        refused(Scenes::lively, -1, "personOf", 2, 7);
        refused(Scenes::lively, -1, "personOf", -1, -1);
        refused(Scenes::lively, -2, "personOf", 1, -1);
        refused(Scenes::lively, -2, "personOf", 1, 7);
        refused(Scenes::lively, -2, "personOf", 0, MOST);
        refused(Scenes::lively, -2, "personOf", 0, LEAST);
        inMind(Scenes::lively, 1, "personOf", 0, 3);
        inMind(Scenes::lively, 0, "personOf", 1, 3);
    }

    private static void ofKind(int kind, int figure, int soft, int sore, int charm) {
        PrayerMatsFace x = new PrayerMatsFace();
        x.person(kind, figure, 0);
        due(x, soft, "personOf", 0, 4);
        due(x, sore, "personOf", 0, 5);
        due(x, charm, "personOf", 0, 6);
    }

    private static void p4Kinds() {
        sentence(4, "SOFT: PERSON 1; MERCHANT FIGURE over 5, cut; BOY 3; WIDOWER 1 more; DEALER 1 more than a MERCHANT's; BLIND twice a WIDOWER's.");
        ofKind(0, 0, 1, 1, 0);
        ofKind(0, 9, 1, 1, 9);
        ofKind(1, 4, 0, 3, 2);
        ofKind(1, 5, 1, 3, 2);
        ofKind(1, 9, 1, 3, 4);
        ofKind(2, 0, 3, 0, 3);
        ofKind(2, 9, 3, 0, 12);
        ofKind(3, 0, 2, 0, 0);
        ofKind(3, 9, 2, 3, 0);
        ofKind(4, 4, 1, 1, 6);
        ofKind(4, 5, 2, 1, 6);
        ofKind(5, 0, 4, 0, 9);
        ofKind(5, 9, 4, 3, 9);
        sentence(4, "SORE: PERSON 1; MERCHANT 2 more; BOY 0; WIDOWER FIGURE over 3, cut; DEALER half of a MERCHANT's, cut; BLIND as a WIDOWER.");
        ofKind(3, 2, 2, 0, 0);
        ofKind(3, 3, 2, 1, 0);
        ofKind(3, 5, 2, 1, 0);
        ofKind(3, 6, 2, 2, 0);
        ofKind(3, 8, 2, 2, 0);
        ofKind(5, 2, 4, 0, 9);
        ofKind(5, 3, 4, 1, 9);
        ofKind(5, 8, 4, 2, 9);
        sentence(4, "CHARM: PERSON FIGURE; MERCHANT half, cut; BOY 3 more; WIDOWER 0; DEALER 4 more than a MERCHANT's; BLIND 9.");
        ofKind(1, 0, 0, 3, 0);
        ofKind(1, 1, 0, 3, 0);
        ofKind(1, 2, 0, 3, 1);
        ofKind(4, 0, 1, 1, 4);
        ofKind(4, 1, 1, 1, 4);
        ofKind(4, 2, 1, 1, 5);
        ofKind(4, 9, 2, 1, 8);
    }

    private static void p5Between() {
        sentence(5, "QUARREL (what 0), LIKES of the one for the other and 1000 (1). -1 either (one twice); -2.");
        inMind(Scenes::lively, 30, "between", 0, 1, 0);
        inMind(Scenes::lively, 30, "between", 1, 0, 0);
        inMind(Scenes::lively, 1036, "between", 0, 1, 1);
        inMind(Scenes::lively, 1037, "between", 1, 0, 1);
        inMind(Scenes::full, 33, "between", 5, 4, 0);
        twoRefused("between", 0);
        twoRefused("between", 2);
        refused(Scenes::lively, -2, "between", 0, 1, -1);
        refused(Scenes::lively, -2, "between", 0, 1, 2);
        refused(Scenes::lively, -2, "between", 1, 0, MOST);
        refused(Scenes::lively, -2, "between", 1, 0, LEAST);

        sentence(5, "LIKES of one for another: 60 less their QUARREL, plus how many HOURS both come, plus the CHARM of that one.");
        due(told("p0000;p2900;"), 1072, "between", 0, 1, 1);
        due(told("p0031;p2931;"), 1077, "between", 0, 1, 1);
        due(told("p0021;p2910;"), 1072, "between", 0, 1, 1);
        due(told("p0016;p2931;"), 1073, "between", 0, 1, 1);
        due(told("p0000;p3900;q0160;"), 1000, "between", 0, 1, 1);
        due(told("p0000;p3900;q0161;"), 999, "between", 0, 1, 1);
        due(told("p0000;p3900;q0199;"), 961, "between", 0, 1, 1);
    }

    private static void p6Person() {
        sentence(6, "One more: the number. -2; -4 either; -6 (9; 31; 6 there are).");
        due(Scenes.lively(), 2, "person", 0, 0, 0);
        due(Scenes.lively(), 2, "person", 5, 9, 31);
        refused(Scenes::lively, -2, "person", -1, 0, 0);
        refused(Scenes::lively, -2, "person", 6, 0, 0);
        refused(Scenes::lively, -2, "person", MOST, 0, 0);
        refused(Scenes::lively, -2, "person", LEAST, 0, 0);
        refused(Scenes::lively, -4, "person", 0, -1, 0);
        refused(Scenes::lively, -4, "person", 0, 0, -1);
        refused(Scenes::lively, -4, "person", 0, LEAST, LEAST);
        refused(Scenes::lively, -6, "person", 0, 10, 0);
        refused(Scenes::lively, -6, "person", 0, 0, 32);
        refused(Scenes::lively, -6, "person", 0, MOST, 0);
        refused(Scenes::lively, -6, "person", 0, 0, MOST);
        refused(Scenes::lively, -2, "person", 6, -1, 32);
        refused(Scenes::lively, -4, "person", 0, 10, -1);
        refused(Scenes::lively, -4, "person", 0, -1, 32);
        refused(Scenes::full, -6, "person", 0, 0, 0);
        refused(Scenes::full, -2, "person", 6, 0, 0);
        refused(Scenes::full, -4, "person", 5, -1, 0);

        sentence(6, "PEOPLE 0 .. 5 as they come (6 at most)");
        PrayerMatsFace x = new PrayerMatsFace();
        for (int number = 0; number < 6; number++) due(x, number, "person", number, 9 - number, 31 - number);
        due(x, 6, "count", 0);
        due(x, -6, "person", 0, 0, 0);
        due(x, 6, "count", 0);
        for (int number = 0; number < 6; number++) {
            due(x, number, "personOf", number, 0);
            due(x, 9 - number, "personOf", number, 1);
            due(x, 31 - number, "personOf", number, 2);
        }
    }

    private static void p7Comes() {
        sentence(7, "HOURS become others: what they were. -1; -4; -6 31.");
        PrayerMatsFace x = Scenes.lively();
        due(x, 21, "comes", 1, 0);
        due(x, 0, "comes", 1, 31);
        due(x, 31, "comes", 1, 31);
        due(x, 31, "personOf", 1, 2);
        due(x, 31, "personOf", 0, 2);
        refused(Scenes::lively, -1, "comes", 2, 0);
        refused(Scenes::lively, -1, "comes", -1, 0);
        refused(Scenes::full, -1, "comes", 6, 0);
        refused(Scenes::lively, -1, "comes", MOST, 32);
        refused(Scenes::lively, -1, "comes", LEAST, -1);
        refused(Scenes::lively, -4, "comes", 0, -1);
        refused(Scenes::lively, -4, "comes", 0, LEAST);
        refused(Scenes::lively, -6, "comes", 0, 32);
        refused(Scenes::lively, -6, "comes", 0, MOST);
    }

    private static void p8Quarrels() {
        sentence(8, "QUARREL becomes v: what it was. -1 either (one twice); -4; -6 99.");
        PrayerMatsFace x = Scenes.lively();
        due(x, 30, "quarrels", 0, 1, 0);
        due(x, 0, "quarrels", 1, 0, 99);
        due(x, 99, "between", 0, 1, 0);
        due(x, 99, "between", 1, 0, 0);
        twoRefused("quarrels", 0);
        twoRefused("quarrels", -1);
        twoRefused("quarrels", 100);
        refused(Scenes::lively, -4, "quarrels", 0, 1, -1);
        refused(Scenes::lively, -4, "quarrels", 0, 1, LEAST);
        refused(Scenes::lively, -6, "quarrels", 0, 1, 100);
        refused(Scenes::lively, -6, "quarrels", 0, 1, MOST);
    }

    private static void p9Joins() {
        sentence(9, "On one mat (who was with them is alone), or not any more: how many mats hold two. -1 either (one twice).");
        PrayerMatsFace x = Scenes.alike(6);
        due(x, 1, "joins", 0, 1);
        due(x, 2, "joins", 3, 2);
        due(x, 3, "joins", 4, 5);
        due(x, 2, "joins", 1, 2);
        due(x, -9, "personOf", 0, 3);
        due(x, -9, "personOf", 3, 3);
        due(x, 2, "personOf", 1, 3);
        due(x, 1, "personOf", 2, 3);
        due(x, 2, "joins", 0, 1);
        due(x, -9, "personOf", 2, 3);
        due(x, 1, "joins", 1, 0);
        due(x, -9, "personOf", 0, 3);
        due(x, -9, "personOf", 1, 3);
        due(x, 0, "joins", 4, 5);
        twoRefused("joins");
    }

    private static void p10Days() {
        sentence(10, "n DAYS go by: all QUARRELS together. -4 below 1; -6 (60; DAY above 999).");
        due(Scenes.pair(), 26, "days", 1);
        due(Scenes.pair(), 2, "days", 7);
        due(Scenes.pair(), 0, "days", 8);
        due(Scenes.pair(), 0, "days", 60);
        due(told("p0431;p1721;p0000;q0130;q0240;q1255;m01;"), 121, "days", 1);
        refused(Scenes::lively, -4, "days", 0);
        refused(Scenes::lively, -4, "days", -1);
        refused(Scenes::lively, -4, "days", LEAST);
        refused(Scenes::lively, -6, "days", 61);
        refused(Scenes::lively, -6, "days", MOST);
        due(Scenes.onDay(939), 0, "days", 60);
        refused(() -> Scenes.onDay(940), -6, "days", 60);
        due(Scenes.onDay(940), 0, "days", 59);
        due(Scenes.onDay(998), 0, "days", 1);
        refused(() -> Scenes.onDay(998), -6, "days", 2);
        refused(() -> Scenes.onDay(999), -6, "days", 1);
        refused(() -> Scenes.onDay(999), -4, "days", 0);
        due(Scenes.nobody(), 0, "days", 1);

        sentence(10, "A DAY: DAY is 1 more");
        PrayerMatsFace x = Scenes.onDay(939);
        x.days(60);
        due(x, 999, "count", 1);
        due(x, -6, "days", MOST);
        due(x, 999, "count", 1);
    }

    private static void dayOf(String people, int quarrel, int want) {
        PrayerMatsFace x = told(people + "m01;");
        x.quarrels(0, 1, quarrel);
        due(x, want, "days", 1);
    }

    private static void p10Hours() {
        sentence(10, "if both come, their QUARREL is less by SOFT of both together (0 at least)");
        dayOf("p0001;p0001;", 3, 1);
        dayOf("p0001;p0001;", 2, 0);
        dayOf("p0001;p0001;", 1, 0);
        dayOf("p0001;p0001;", 0, 0);
        dayOf("p2016;p5016;", 8, 1);
        dayOf("p2016;p5016;", 6, 0);

        sentence(10, "if just one does, more by his SORE (99 at most), else as it was");
        dayOf("p1001;p0000;", 95, 98);
        dayOf("p1001;p0000;", 96, 99);
        dayOf("p1001;p0000;", 97, 99);
        dayOf("p1001;p0000;", 99, 99);
        dayOf("p0000;p1001;", 95, 98);
        dayOf("p1000;p0016;", 97, 98);
        dayOf("p1000;p0016;", 98, 99);
        dayOf("p2001;p1000;", 50, 50);
        dayOf("p0000;p0000;", 50, 50);
        dayOf("p0015;p0000;", 50, 54);
        dayOf("p0000;p0031;", 50, 55);

        sentence(10, "its HOURS 0 .. 4 one behind the other");
        dayOf("p0003;p0001;", 1, 1);
        dayOf("p0003;p0002;", 1, 0);
        dayOf("p0017;p0016;", 0, 0);
        dayOf("p0017;p0001;", 0, 1);
        dayOf("p0006;p0002;", 0, 1);
        dayOf("p0006;p0004;", 0, 0);
        dayOf("p0012;p0004;", 0, 1);
        dayOf("p0012;p0008;", 0, 0);
        dayOf("p0024;p0008;", 0, 1);
        dayOf("p0024;p0016;", 0, 0);
        dayOf("p0003;p0002;", 99, 97);
        dayOf("p0003;p0001;", 99, 98);
        PrayerMatsFace apart = told("p0031;p0031;q0140;");
        due(apart, 40, "days", 60);
    }

    private static void p11Back() {
        sentence(11, "TAKEN BACK: how many can still be. -3 none.");
        refused(Scenes::nobody, -3, "back");
        refused(Scenes::pair, -3, "back");
        PrayerMatsFace x = Scenes.lively();
        due(x, 2, "back");
        due(x, -9, "personOf", 0, 3);
        due(x, 1, "back");
        due(x, 11, "between", 0, 1, 0);
        due(x, 0, "back");
        due(x, 0, "personOf", 0, 2);
        due(x, -3, "back");
        due(x, 7, "count", 1);

        sentence(11, "What comes(), quarrels(), joins(), days() changed can be TAKEN BACK (each that is not refused counts, also if all stays as it was)");
        x = Scenes.pair();
        x.comes(0, 31);
        due(x, 1, "count", 7);
        x.quarrels(0, 1, 30);
        due(x, 2, "count", 7);
        x.joins(0, 1);
        due(x, 3, "count", 7);
        x.days(1);
        due(x, 4, "count", 7);
        x.comes(0, 32);
        x.quarrels(0, 1, 100);
        x.joins(0, 0);
        x.days(0);
        x.days(61);
        due(x, 4, "count", 7);
        due(x, 3, "back");
        due(x, 0, "count", 1);
        due(x, 30, "between", 0, 1, 0);
        due(x, 2, "back");
        due(x, 1, "personOf", 0, 3);
        due(x, 1, "back");
        due(x, 0, "back");
        due(x, 31, "personOf", 0, 2);
    }

    private static void p11EightAtMost() {
        sentence(11, "the latest first, 8 at most (older ones no more");
        PrayerMatsFace x = Scenes.pair();
        for (int v = 1; v <= 7; v++) x.quarrels(0, 1, v);
        due(x, 7, "count", 7);
        x.quarrels(0, 1, 8);
        due(x, 8, "count", 7);
        x.quarrels(0, 1, 9);
        due(x, 8, "count", 7);
        for (int left = 7; left >= 0; left--) {
            due(x, left, "back");
            due(x, left + 1, "between", 0, 1, 0);
        }
        due(x, -3, "back");
        due(x, 1, "between", 0, 1, 0);
        for (int v = 11; v <= 18; v++) x.quarrels(0, 1, v);
        for (int left = 7; left >= 1; left--) due(x, left, "back");
        due(x, 11, "between", 0, 1, 0);
        due(x, 0, "back");
        due(x, 1, "between", 0, 1, 0);
        for (int v = 21; v <= 31; v++) x.quarrels(0, 1, v);
        for (int left = 7; left >= 5; left--) due(x, left, "back");
        due(x, 28, "between", 0, 1, 0);
        x.quarrels(0, 1, 41);
        x.quarrels(0, 1, 42);
        due(x, 7, "count", 7);
        int[] before = {41, 28, 27, 26, 25, 24, 23};
        for (int left = 6; left >= 0; left--) {
            due(x, left, "back");
            due(x, before[6 - left], "between", 0, 1, 0);
        }
        due(x, -3, "back");
    }

    private static void p11LeaveNone() {
        sentence(11, "person(), a QUARTER without FAULT, restore(), where they are not refused, leave none");
        PrayerMatsFace x = Scenes.quiet();
        due(x, 2, "person", 0, 0, 0);
        due(x, 0, "count", 7);
        due(x, -3, "back");
        x = Scenes.lively();
        due(x, 1, "quarter");
        due(x, 0, "count", 7);
        due(x, -3, "back");
        x = Scenes.quiet();
        due(x, 7, "restore");
        due(x, 0, "count", 7);
        due(x, -3, "back");
        x = Scenes.quiet();
        due(x, -6, "person", 0, 10, 0);
        due(x, -1000, "quarter");
        feed(x, "m00;");
        due(x, -2000, "quarter");
        x.image();
        x.row(5);
        x.feed(5);
        x.judge(0);
        x.clear();
        x.lots(1, 1, 0);
        due(x, 3, "count", 7);
        PrayerMatsFace bare = Scenes.pair();
        bare.comes(0, 1);
        due(bare, -3, "restore");
        due(bare, 1, "count", 7);
        due(bare, 0, "back");
    }

    public static void main(String[] args) {
        p1New();
        p2Feed();
        p3FaultsOfKind1();
        p3FaultsOfKind2();
        p3OrderOfFaults();
        p3Rest();
        p4PersonOf();
        p4Kinds();
        p5Between();
        p6Person();
        p7Comes();
        p8Quarrels();
        p9Joins();
        p10Days();
        p10Hours();
        p11Back();
        p11EightAtMost();
        p11LeaveNone();
        end(1, 11);
    }
}
