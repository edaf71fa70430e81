/** Each promise of the document, counted by hand: ordinary calls, edges, and refusals in their order. */
public final class PromisesTest {
    private static final long INT = 1000000000L;
    private static final long LONG = 4000000000000000000L;
    private static final int LEAST = Integer.MIN_VALUE;
    private static final int MOST = Integer.MAX_VALUE;

    private static int wrong = 0;

    private static void due(String call, long got, long want) {
        if (got != want) {
            wrong++;
            System.out.println(call + " answered " + got + ", due is " + want);
        }
    }

    private static int say(PrayerMatsFace x, String letters) {
        for (int i = 0; i < letters.length(); i++) x.feed(letters.charAt(i));
        return x.quarter();
    }

    private static PrayerMatsFace told(String letters) {
        PrayerMatsFace x = new PrayerMatsFace();
        int statements = 0;
        for (int i = 0; i < letters.length(); i++) {
            if (letters.charAt(i) == ';') statements++;
        }
        due("quarter() of " + letters, say(x, letters), statements);
        return x;
    }

    private static void rowOf(PrayerMatsFace x, int... numbers) {
        x.clear();
        for (int number : numbers) x.row(number);
    }

    /** A PERSON who always comes and a MERCHANT at HOURS 0, 2, 4 on one mat: -2, +1, -2, +1, -2 a DAY. */
    private static PrayerMatsFace pair() {
        return told("p0431;p1721;q0130;m01;");
    }

    private static PrayerMatsFace oneOfEachKind() {
        return told("p0431;p1721;p2315;p3607;p4931;p5230;");
    }

    private static void p1New() {
        PrayerMatsFace x = new PrayerMatsFace();
        for (int what = 0; what <= 7; what++) due("new count(" + what + ")", x.count(what), 0);
        for (int what = 11; what <= 16; what++) due("new count(" + what + ")", x.count(what), 0);
        due("new back()", x.back(), -3);
        due("new restore()", x.restore(), -3);
        due("new personOf(0, 0)", x.personOf(0, 0), -1);
        due("new quarter()", x.quarter(), -1000);
        due("new clear()", x.clear(), 0);
    }

    private static void p2Feed() {
        PrayerMatsFace x = new PrayerMatsFace();
        due("feed(-1)", x.feed(-1), -4);
        due("feed(256)", x.feed(256), -6);
        due("feed(least int)", x.feed(LEAST), -4);
        due("feed(most int)", x.feed(MOST), -6);
        due("feed(0)", x.feed(0), 1);
        due("feed(255)", x.feed(255), 2);
        for (int i = 3; i <= 96; i++) due("feed no. " + i, x.feed('p'), i);
        due("feed no. 97", x.feed('p'), -6);
        due("feed(-1) when full", x.feed(-1), -4);
        due("letters", x.count(5), 96);
        due("refusals -4", x.count(14), 3);
        due("refusals -6", x.count(16), 3);
        due("quarter()", x.quarter(), -1000);
        due("letters behind quarter()", x.count(5), 0);
        due("feed behind quarter()", x.feed('p'), 1);
    }

    private static void p3QuarterGood() {
        PrayerMatsFace x = new PrayerMatsFace();
        due("six people", say(x, "p0431;p1721;p2315;p3607;p4931;p5230;"), 6);
        due("people", x.count(0), 6);
        due("KIND of 4", x.personOf(4, 0), 4);
        due("FIGURE of 4", x.personOf(4, 1), 9);
        due("HOURS of 5", x.personOf(5, 2), 30);
        due("h", say(x, "h000;h131;h209;"), 3);
        due("HOURS of 0", x.personOf(0, 2), 0);
        due("HOURS of 1", x.personOf(1, 2), 31);
        due("HOURS of 2", x.personOf(2, 2), 9);
        due("m", say(x, "m01;m12;"), 2);
        due("MATE of 0", x.personOf(0, 3), -9);
        due("MATE of 1", x.personOf(1, 3), 2);
        due("m again, turned round", say(x, "m21;"), 1);
        due("MATE of 1 then", x.personOf(1, 3), -9);
        due("q", say(x, "q5099;"), 1);
        due("QUARREL", x.between(0, 5, 0), 99);
        due("d", say(x, "d60;d01;"), 2);
        due("DAY", x.count(1), 61);
        due("letters", x.count(5), 0);
        String most = "q0101;q0102;q0103;q0104;q0105;q0106;q0107;q0108;"
            + "q0109;q0110;q0111;q0112;q0113;q0114;q0115;q0116;";
        due("96 letters", say(x, most), 16);
        due("QUARREL by the last of 96 letters", x.between(0, 1, 0), 16);
        due("in their order", say(x, "q0130;h031;h121;m01;d01;q0140;d01;"), 7);
        due("QUARREL in their order", x.between(0, 1, 0), 36);
        due("a new one at once", say(new PrayerMatsFace(), "p0000;p0000;q0101;m10;h131;d60;"), 6);
        due("no refusals", x.count(11) + x.count(12) + x.count(13) + x.count(14) + x.count(16), 0);
    }

    private static void faultOf(String text, int want) {
        PrayerMatsFace x = told("p0431;p1721;");
        x.comes(0, 30);
        x.feed('x');
        x.quarter();
        due("quarter() of " + text, say(x, text), want);
        due("PEOPLE behind " + text, x.count(0), 2);
        due("HOURS of 0 behind " + text, x.personOf(0, 2), 30);
        due("QUARREL behind " + text, x.between(0, 1, 0), 0);
        due("mats behind " + text, x.count(2), 0);
        due("DAY behind " + text, x.count(1), 0);
        due("letters behind " + text, x.count(5), 0);
        due("what can be TAKEN BACK behind " + text, x.count(7), 1);
        for (int what = 11; what <= 16; what++) due("REFUSALS behind " + text, x.count(what), 0);
    }

    private static void p3QuarterFaultsOfLetters() {
        faultOf("", -1000);
        faultOf("x", -1000);
        faultOf("p", -1001);
        faultOf("p0", -1002);
        faultOf("p000", -1004);
        faultOf("p0000", -1005);
        faultOf("p000;", -1004);
        faultOf("pa", -1001);
        faultOf("p0 ", -1002);
        faultOf("p0000x", -1005);
        faultOf("p00000;", -1005);
        faultOf("P0000;", -1000);
        faultOf(";", -1000);
        faultOf("0", -1000);
        faultOf("m01;;", -1004);
        faultOf("m01;x", -1004);
        faultOf("m01", -1003);
        faultOf("m01; ", -1004);
        faultOf("m0:;", -1002);
        faultOf("m/1;", -1001);
        faultOf("h00;", -1003);
        faultOf("h0000;", -1004);
        faultOf("q013;", -1004);
        faultOf("q01999;", -1005);
        faultOf("d1;", -1002);
        faultOf("d1", -1002);
        faultOf("d01:", -1003);
        faultOf("d-1;", -1001);
        faultOf("p9000;m01;x", -1010);
        faultOf("m00;m01", -1007);
        faultOf("q0130;d05;p0000;m0", -1018);
        faultOf("q0130;d05;p0000;" + (char) 245, -1016);
    }

    private static void p3QuarterFaultsOfStatements() {
        faultOf("p6000;", -2000);
        faultOf("p9999;", -2000);
        faultOf("p0032;", -2000);
        faultOf("h032;", -2000);
        faultOf("h200;", -2000);
        faultOf("h931;", -2000);
        faultOf("q0010;", -2000);
        faultOf("q0210;", -2000);
        faultOf("q2010;", -2000);
        faultOf("m00;", -2000);
        faultOf("m02;", -2000);
        faultOf("m20;", -2000);
        faultOf("d00;", -2000);
        faultOf("d61;", -2000);
        faultOf("d99;", -2000);
        faultOf("m01;m02;", -2004);
        faultOf("q0199;h031;d60;p0000;m02;m03;", -2025);
        faultOf("p0000;p0000;p0000;p0000;p0000;m00;", -2024);
        faultOf("m02;p0000;", -2000);
        faultOf("m00;m02;", -2000);
        PrayerMatsFace x = new PrayerMatsFace();
        for (int i = 0; i < 16; i++) x.days(60);
        due("d to 1000", say(x, "d40;"), -2000);
        due("d to 999 and 1000", say(x, "d39;d01;"), -2004);
        due("DAY behind both", x.count(1), 960);
        due("d to 999", say(x, "d38;d01;"), 2);
        due("DAY 999", x.count(1), 999);
    }

    private static void p4PersonOf() {
        int[][] want = {
            {0, 4, 31, -9, 1, 1, 4}, {1, 7, 21, -9, 1, 3, 3}, {2, 3, 15, -9, 3, 0, 6},
            {3, 6, 7, -9, 2, 2, 0}, {4, 9, 31, -9, 2, 1, 8}, {5, 2, 30, -9, 4, 0, 9}};
        PrayerMatsFace x = oneOfEachKind();
        for (int person = 0; person < 6; person++) {
            for (int what = 0; what <= 6; what++) {
                due("personOf(" + person + ", " + what + ")", x.personOf(person, what), want[person][what]);
            }
        }
        x.joins(4, 1);
        due("MATE of 1", x.personOf(1, 3), 4);
        due("MATE of 4", x.personOf(4, 3), 1);
        due("personOf(6, 9)", x.personOf(6, 9), -1);
        due("personOf(-1, 0)", x.personOf(-1, 0), -1);
        due("personOf(0, 7)", x.personOf(0, 7), -2);
        due("personOf(0, -1)", x.personOf(0, -1), -2);
        due("refusals -1", x.count(11), 2);
        due("refusals -2", x.count(12), 2);
    }

    private static void p4KindsByFigure() {
        int[][] soft = {
            {1, 1, 1, 1, 1, 1, 1, 1, 1, 1}, {0, 0, 0, 0, 0, 1, 1, 1, 1, 1}, {3, 3, 3, 3, 3, 3, 3, 3, 3, 3},
            {2, 2, 2, 2, 2, 2, 2, 2, 2, 2}, {1, 1, 1, 1, 1, 2, 2, 2, 2, 2}, {4, 4, 4, 4, 4, 4, 4, 4, 4, 4}};
        int[][] sore = {
            {1, 1, 1, 1, 1, 1, 1, 1, 1, 1}, {3, 3, 3, 3, 3, 3, 3, 3, 3, 3}, {0, 0, 0, 0, 0, 0, 0, 0, 0, 0},
            {0, 0, 0, 1, 1, 1, 2, 2, 2, 3}, {1, 1, 1, 1, 1, 1, 1, 1, 1, 1}, {0, 0, 0, 1, 1, 1, 2, 2, 2, 3}};
        int[][] charm = {
            {0, 1, 2, 3, 4, 5, 6, 7, 8, 9}, {0, 0, 1, 1, 2, 2, 3, 3, 4, 4}, {3, 4, 5, 6, 7, 8, 9, 10, 11, 12},
            {0, 0, 0, 0, 0, 0, 0, 0, 0, 0}, {4, 4, 5, 5, 6, 6, 7, 7, 8, 8}, {9, 9, 9, 9, 9, 9, 9, 9, 9, 9}};
        for (int kind = 0; kind < 6; kind++) {
            for (int figure = 0; figure < 10; figure++) {
                PrayerMatsFace x = new PrayerMatsFace();
                x.person(kind, figure, 0);
                String who = " of KIND " + kind + ", FIGURE " + figure;
                due("SOFT" + who, x.personOf(0, 4), soft[kind][figure]);
                due("SORE" + who, x.personOf(0, 5), sore[kind][figure]);
                due("CHARM" + who, x.personOf(0, 6), charm[kind][figure]);
            }
        }
    }

    private static void p5Between() {
        PrayerMatsFace x = pair();
        due("QUARREL", x.between(0, 1, 0), 30);
        due("QUARREL turned round", x.between(1, 0, 0), 30);
        due("LIKES of 0 for 1", x.between(0, 1, 1), 1036);
        due("LIKES of 1 for 0", x.between(1, 0, 1), 1037);
        due("between(0, 0, 9)", x.between(0, 0, 9), -1);
        due("between(2, 0, 0)", x.between(2, 0, 0), -1);
        due("between(0, -1, 0)", x.between(0, -1, 0), -1);
        due("between(0, 1, 2)", x.between(0, 1, 2), -2);
        due("between(0, 1, -1)", x.between(0, 1, -1), -2);
        PrayerMatsFace far = told("p0000;p3900;q0199;");
        due("LIKES below 0", far.between(0, 1, 1), 961);
    }

    private static void p6Person() {
        PrayerMatsFace x = new PrayerMatsFace();
        due("person(6, -1, 99)", x.person(6, -1, 99), -2);
        due("person(-1, 0, 0)", x.person(-1, 0, 0), -2);
        due("person(0, -1, 32)", x.person(0, -1, 32), -4);
        due("person(0, 10, -1)", x.person(0, 10, -1), -4);
        due("person(0, 10, 0)", x.person(0, 10, 0), -6);
        due("person(0, 0, 32)", x.person(0, 0, 32), -6);
        due("PEOPLE behind refusals", x.count(0), 0);
        for (int i = 0; i < 6; i++) due("person no. " + i, x.person(i, 9 - i, 31 - i), i);
        due("the seventh", x.person(0, 0, 0), -6);
        due("the seventh of no KIND", x.person(7, 0, 0), -2);
        due("the seventh below", x.person(0, -1, 0), -4);
        due("refusals -2", x.count(12), 3);
        due("refusals -4", x.count(14), 3);
        due("refusals -6", x.count(16), 3);
        due("PEOPLE", x.count(0), 6);
        PrayerMatsFace y = pair();
        y.comes(0, 0);
        due("one refused", y.person(9, 0, 0), -2);
        due("leaves what can be TAKEN BACK", y.count(7), 1);
        due("one more", y.person(0, 0, 0), 2);
        due("leaves none", y.count(7), 0);
        due("his QUARREL", y.between(2, 0, 0) + y.between(2, 1, 0), 0);
        due("his MATE", y.personOf(2, 3), -9);
    }

    private static void p7Comes() {
        PrayerMatsFace x = pair();
        due("comes(0, 5)", x.comes(0, 5), 31);
        due("comes(0, 0)", x.comes(0, 0), 5);
        due("comes(0, 31)", x.comes(0, 31), 0);
        due("comes(2, -1)", x.comes(2, -1), -1);
        due("comes(-1, 0)", x.comes(-1, 0), -1);
        due("comes(0, -1)", x.comes(0, -1), -4);
        due("comes(0, 32)", x.comes(0, 32), -6);
        due("HOURS", x.personOf(0, 2), 31);
        due("HOURS of the other", x.personOf(1, 2), 21);
    }

    private static void p8Quarrels() {
        PrayerMatsFace x = pair();
        due("quarrels(1, 0, 99)", x.quarrels(1, 0, 99), 30);
        due("quarrels(0, 1, 0)", x.quarrels(0, 1, 0), 99);
        due("quarrels(0, 0, -1)", x.quarrels(0, 0, -1), -1);
        due("quarrels(0, 2, 5)", x.quarrels(0, 2, 5), -1);
        due("quarrels(0, 1, -1)", x.quarrels(0, 1, -1), -4);
        due("quarrels(0, 1, 100)", x.quarrels(0, 1, 100), -6);
        due("QUARREL", x.between(1, 0, 0), 0);
    }

    private static void p9Joins() {
        PrayerMatsFace x = oneOfEachKind();
        due("joins(0, 1)", x.joins(0, 1), 1);
        due("joins(3, 2)", x.joins(3, 2), 2);
        due("joins(5, 4)", x.joins(5, 4), 3);
        due("joins(1, 2)", x.joins(1, 2), 2);
        due("MATE of 0", x.personOf(0, 3), -9);
        due("MATE of 3", x.personOf(3, 3), -9);
        due("MATE of 2", x.personOf(2, 3), 1);
        due("joins(2, 1)", x.joins(2, 1), 1);
        due("MATE of 2 alone", x.personOf(2, 3), -9);
        due("MATE of 1 alone", x.personOf(1, 3), -9);
        due("joins(1, 1)", x.joins(1, 1), -1);
        due("joins(6, 0)", x.joins(6, 0), -1);
        due("joins(0, -1)", x.joins(0, -1), -1);
        due("mats", x.count(2), 1);
    }

    private static void p10Days() {
        PrayerMatsFace x = pair();
        due("days(1)", x.days(1), 26);
        due("days(2)", x.days(2), 18);
        due("DAY", x.count(1), 3);
        due("days(60)", x.days(60), 0);
        due("days(0)", x.days(0), -4);
        due("days(least int)", x.days(LEAST), -4);
        due("days(61)", x.days(61), -6);
        due("days(most int)", x.days(MOST), -6);
        due("DAY behind refusals", x.count(1), 63);
        for (int i = 0; i < 15; i++) x.days(60);
        due("DAY 963", x.count(1), 963);
        due("days(37)", x.days(37), -6);
        due("days(36)", x.days(36), 0);
        due("days(1) on DAY 999", x.days(1), -6);
        due("DAY 999", x.count(1), 999);
        PrayerMatsFace y = told("p3931;p0000;q0198;m01;");
        due("99 at most", y.days(1), 99);
        PrayerMatsFace z = told("p0031;p0001;q0101;m01;");
        due("0 at least within the DAY", z.days(1), 4);
        PrayerMatsFace apart = told("p0031;p0031;q0140;");
        due("apart it stays", apart.days(5), 40);
    }

    private static void p11Back() {
        PrayerMatsFace x = pair();
        x.comes(0, 0);
        x.quarrels(0, 1, 50);
        x.joins(0, 1);
        x.joins(0, 1);
        x.days(4);
        x.comes(1, 21);
        due("what can be TAKEN BACK", x.count(7), 6);
        due("back() of comes that changed nothing", x.back(), 5);
        due("QUARREL and DAY still", x.between(0, 1, 0) * 10 + x.count(1), 864);
        due("back() of days", x.back(), 4);
        due("QUARREL and DAY as before", x.between(0, 1, 0) * 10 + x.count(1), 500);
        due("back() of joins", x.back(), 3);
        due("alone again", x.personOf(0, 3), -9);
        due("back() of joins apart", x.back(), 2);
        due("on one mat again", x.personOf(0, 3), 1);
        due("back() of quarrels", x.back(), 1);
        due("QUARREL", x.between(0, 1, 0), 30);
        due("back() of comes", x.back(), 0);
        due("HOURS", x.personOf(0, 2), 31);
        due("back() of nothing", x.back(), -3);
        due("refusals -3", x.count(13), 1);
        for (int hours = 0; hours < 11; hours++) x.comes(0, hours);
        due("8 at most", x.count(7), 8);
        x.comes(0, 99);
        due("a refused one isn't kept", x.count(7), 8);
        for (int left = 7; left >= 0; left--) due("back() of 8", x.back(), left);
        due("the oldest stay", x.personOf(0, 2), 2);
        due("no more", x.back(), -3);
        x.joins(0, 1);
        due("a mate put off comes back", say(x, "p0000;"), 1);
        due("a QUARTER leaves none", x.count(7), 0);
        x.joins(0, 1);
        x.joins(1, 2);
        x.back();
        due("the mat of before", x.personOf(0, 3) * 10 + x.personOf(1, 3), 10);
    }

    private static void p12Behind() {
        PrayerMatsFace x = pair();
        int[] want = {30, 26, 22, 18, 14, 10, 6, 2, 0, 0};
        for (int n = 0; n < want.length; n++) due("behind(1, 0, " + n + ")", x.behind(1, 0, n), want[n]);
        due("behind(0, 1, 99)", x.behind(0, 1, 99), 0);
        due("behind(0, 0, -1)", x.behind(0, 0, -1), -1);
        due("behind(0, 2, 0)", x.behind(0, 2, 0), -1);
        due("behind(0, 1, -1)", x.behind(0, 1, -1), -4);
        due("behind(0, 1, 100)", x.behind(0, 1, 100), -6);
        due("QUARREL stays", x.between(0, 1, 0), 30);
        due("DAY stays", x.count(1), 0);
        x.joins(0, 1);
        due("apart", x.behind(0, 1, 50), 30);
        PrayerMatsFace y = told("p1031;p0000;q0105;m01;");
        due("only one comes", y.behind(0, 1, 3), 50);
        due("99 at most", y.behind(0, 1, 99), 99);
    }

    private static void p13All() {
        PrayerMatsFace x = told("p0431;p1721;p0000;q0130;q0225;m01;");
        due("all(0, 0)", x.all(0, 0), 55);
        due("all(2, 0)", x.all(2, 0), 47);
        due("all(99, 0)", x.all(99, 0), 25);
        due("all(7, 1)", x.all(7, 1), 1);
        due("all(8, 1)", x.all(8, 1), 2);
        due("all(1, 2)", x.all(1, 2), 1);
        due("all(2, 2)", x.all(2, 2), 2);
        x.quarrels(1, 2, 25);
        due("of several the first", x.all(2, 2), 2);
        due("all(-1, 9)", x.all(-1, 9), -4);
        due("all(100, 9)", x.all(100, 9), -6);
        due("all(0, 3)", x.all(0, 3), -2);
        due("all(0, -1)", x.all(0, -1), -2);
        due("DAY stays", x.count(1), 0);
        PrayerMatsFace y = told("p0000;p0000;p0000;");
        due("AT LAW without QUARREL", y.all(0, 2), 1);
        y.quarrels(2, 1, 1);
        due("AT LAW the last two", y.all(5, 2), 12);
        due("AT LAW of one", told("p0000;").all(0, 2), -9);
    }

    private static void p14Mended() {
        PrayerMatsFace x = pair();
        due("mended(0, 1)", x.mended(0, 1), 8);
        due("mended(1, 0)", x.mended(1, 0), 8);
        due("mended(1, 1)", x.mended(1, 1), -1);
        due("mended(0, 2)", x.mended(0, 2), -1);
        x.joins(0, 1);
        due("apart", x.mended(0, 1), -9);
        x.quarrels(0, 1, 0);
        due("apart without QUARREL", x.mended(0, 1), 0);
        PrayerMatsFace slow = told("p1001;p1001;p0001;q0299;q0199;m02;");
        due("behind 99 DAYS", slow.mended(0, 2), 99);
        slow.joins(0, 1);
        due("SOFT of nothing", slow.mended(0, 1), -9);
    }

    private static void p15Never() {
        PrayerMatsFace x = told("p1001;p1001;p0001;p0000;q0101;q2399;");
        due("no mats", x.never(), 0);
        x.joins(0, 1);
        due("one never", x.never(), 1);
        x.joins(2, 3);
        due("two never", x.never(), 2);
        x.quarrels(0, 1, 0);
        due("one without", x.never(), 1);
        due("mended in time", pair().never(), 0);
        PrayerMatsFace slow = told("p1001;p0001;q0199;m01;");
        due("on the last DAY", slow.never(), 0);
    }

    private static void p16Turn() {
        PrayerMatsFace x = pair();
        due("turn(0, 1)", x.turn(0, 1), -4);
        due("turn(1, 0)", x.turn(1, 0), -4);
        x.joins(0, 1);
        x.quarrels(0, 1, 0);
        due("apart, without QUARREL", x.turn(0, 1), -4);
        x.comes(0, 10);
        due("never both", x.turn(0, 1), 11);
        due("turn(0, 0)", x.turn(0, 0), INT + 1);
        due("turn(2, 0)", x.turn(2, 0), 1000000001);
        due("refusals -1", x.count(11), 2);
        due("two BLIND", told("p5931;p5931;").turn(0, 1), -40);
    }

    private static void p17Leaves() {
        PrayerMatsFace x = told("p0900;p0900;p0900;");
        due("all alone: the first", x.leaves(0), 1);
        due("all alone: how many", x.leaves(1), 3);
        due("all alone: RID", x.leaves(2), 0);
        x.joins(0, 1);
        due("none LIKES more", x.leaves(0), -9);
        due("none", x.leaves(1), 0);
        x.quarrels(0, 1, 10);
        due("each LIKES 2 more", x.leaves(0), 2);
        due("both", x.leaves(1), 2);
        x.quarrels(0, 2, 12);
        due("one only", x.leaves(0), 12);
        due("leaves(3)", x.leaves(3), -2);
        due("leaves(-1)", x.leaves(-1), -2);
        PrayerMatsFace y = told("p0000;p0000;q0110;");
        due("LIKES 50", y.leaves(1), 1);
        y.joins(0, 1);
        due("LIKES his MATE 50", y.leaves(2), 0);
        y.quarrels(0, 1, 11);
        due("LIKES his MATE 49", y.leaves(2), 3);
        y.joins(0, 1);
        due("LIKES 49", y.leaves(1), 0);
        PrayerMatsFace z = told("p0000;p0900;q0115;m01;");
        due("one RID only", z.leaves(2), 2);
    }

    private static void p18Pairings() {
        PrayerMatsFace x = told("p0900;p0900;p0900;");
        due("pairings(-1)", x.pairings(-1), 3);
        due("pairings(0)", x.pairings(0), -9);
        due("pairings(1)", x.pairings(1), 2);
        due("pairings(2)", x.pairings(2), 1);
        due("pairings(3)", x.pairings(3), -1);
        due("pairings(-2)", x.pairings(-2), -1);
        due("REFUSALS of it", x.count(11), 2);
        x.quarrels(1, 2, 1);
        due("0 is LIKED more", x.pairings(-1), 2);
        due("the first then", x.pairings(0), 1);
        PrayerMatsFace foes = told("p0000;p0000;p0000;p0000;q0199;q0299;q0399;q1299;q1399;q2399;");
        due("only alone", foes.pairings(-1), 1);
        due("MATE alone", foes.pairings(3), -9);
        due("nobody", new PrayerMatsFace().pairings(-1), 1);
        due("nobody there", new PrayerMatsFace().pairings(0), -1);
        PrayerMatsFace mats = told("p0900;p0900;p0900;p0900;m03;");
        due("of four alike", mats.pairings(-1), 3);
        due("0 with 1 first", mats.pairings(0) * 10 + mats.pairings(2), 13);
        due("mats stay", mats.personOf(0, 3), 3);
    }

    private static void p19BestPairing() {
        PrayerMatsFace x = pair();
        due("bestPairing(5, -1)", x.bestPairing(5, -1), 10);
        due("bestPairing(5, 0)", x.bestPairing(5, 0), 1);
        due("bestPairing(5, 1)", x.bestPairing(5, 1), 0);
        due("bestPairing(0, -1)", x.bestPairing(0, -1), 30);
        due("of several the first", x.bestPairing(0, 0), -9);
        due("bestPairing(-1, 2)", x.bestPairing(-1, 2), -1);
        due("bestPairing(5, -2)", x.bestPairing(5, -2), -1);
        due("bestPairing(-1, 0)", x.bestPairing(-1, 0), -4);
        due("bestPairing(100, -1)", x.bestPairing(100, -1), -6);
        due("bestPairing(99, -1)", x.bestPairing(99, -1), 0);
        x.comes(1, 0);
        due("alone is best", x.bestPairing(5, 0), -9);
        due("alone is best: all", x.bestPairing(5, -1), 30);
        PrayerMatsFace four = told("p0031;p0031;p0031;p0031;q0110;q0220;q1330;q2309;m01;");
        due("most mends apart from the mats of now", four.bestPairing(9, -1), 19);
        due("MATE of 0", four.bestPairing(9, 0), 2);
        due("MATE of 3", four.bestPairing(9, 3), 1);
        due("nobody", new PrayerMatsFace().bestPairing(5, -1), 0);
    }

    private static void p20Soonest() {
        PrayerMatsFace x = pair();
        due("soonest(0, 1)", x.soonest(0, 1), 8);
        x.joins(0, 1);
        due("apart", x.soonest(1, 0), 8);
        x.comes(0, 0);
        due("not at all", x.soonest(0, 1), -9);
        x.quarrels(0, 1, 0);
        due("at once", x.soonest(0, 1), 0);
        due("soonest(0, 0)", x.soonest(0, 0), -1);
        due("soonest(0, 2)", x.soonest(0, 2), -1);
        due("behind 99 DAYS", told("p1001;p0001;q0199;").soonest(0, 1), 99);
    }

    private static void p21MateFor() {
        PrayerMatsFace x = told("p0100;p0300;p0300;p3000;");
        due("of several the least", x.mateFor(0, 0), 1);
        due("not himself", x.mateFor(1, 0), 2);
        due("who would have 0", x.mateFor(0, 1), 14);
        x.joins(0, 1);
        due("who would have 2", x.mateFor(2, 1), 10);
        due("who would have 0 then", x.mateFor(0, 1), 12);
        due("who would have 1 then", x.mateFor(1, 1), 12);
        x.quarrels(0, 1, 1);
        due("who would have 2 then", x.mateFor(2, 1), 11);
        due("alone there", told("p0000;").mateFor(0, 0), -9);
        due("alone there: who", told("p0000;").mateFor(0, 1), 0);
        due("mateFor(4, 9)", x.mateFor(4, 9), -1);
        due("mateFor(0, 2)", x.mateFor(0, 2), -2);
        due("mateFor(0, -1)", x.mateFor(0, -1), -2);
    }

    private static void p22HoursFor() {
        PrayerMatsFace x = pair();
        due("hoursFor(0, 0)", x.hoursFor(0, 0), 21);
        due("hoursFor(0, 1)", x.hoursFor(0, 1), 5);
        due("HOURS stay", x.personOf(0, 2), 31);
        due("hoursFor(1, 0)", x.hoursFor(1, 0), 31);
        due("hoursFor(1, 1)", x.hoursFor(1, 1), 3);
        x.quarrels(0, 1, 2);
        due("the fewest on one DAY", x.hoursFor(1, 0), 19);
        x.quarrels(0, 1, 0);
        due("none needed", x.hoursFor(0, 0), 0);
        due("at once", x.hoursFor(0, 1), 0);
        x.quarrels(0, 1, 9);
        x.comes(1, 0);
        due("by none", x.hoursFor(0, 0), -9);
        due("by none: when", x.hoursFor(0, 1), -9);
        x.joins(0, 1);
        due("alone", x.hoursFor(0, 0), -9);
        due("alone: when", x.hoursFor(0, 1), -9);
        due("hoursFor(2, 9)", x.hoursFor(2, 9), -1);
        due("hoursFor(0, 2)", x.hoursFor(0, 2), -2);
        PrayerMatsFace boys = told("p2000;p2031;q0105;m01;");
        due("the fewest, then the least", boys.hoursFor(0, 0), 1);
        boys.quarrels(0, 1, 7);
        due("two HOURS of five", boys.hoursFor(0, 0), 3);
    }

    private static void p23Swap() {
        PrayerMatsFace x = told("p0000;p0000;p0000;p0000;q0120;q2320;m01;m23;");
        due("swap()", x.swap(), 2);
        x.quarrels(0, 3, 20);
        x.quarrels(1, 2, 20);
        due("no more than now", x.swap(), -9);
        x.joins(2, 3);
        due("one mat", x.swap(), -9);
        due("nobody", new PrayerMatsFace().swap(), -9);
        PrayerMatsFace y = told("p0000;p0000;p0000;p0000;p0000;p0000;m05;m14;m23;q0530;q1410;q2320;");
        due("most of three", y.swap(), 2);
        y.quarrels(0, 5, 0);
        due("the two others", y.swap(), 12);
        y.quarrels(1, 4, 0);
        due("of several the first", y.swap(), 2);
        due("mats stay", y.personOf(2, 3), 3);
    }

    private static void p24Glad() {
        PrayerMatsFace x = pair();
        due("glad(0)", x.glad(0), 1036);
        due("glad(1)", x.glad(1), 1037);
        x.joins(0, 1);
        due("alone", x.glad(0), -9);
        due("glad(2)", x.glad(2), -1);
        due("glad(-1)", x.glad(-1), -1);
    }

    private static void p25Who() {
        PrayerMatsFace x = pair();
        due("all KINDS", x.who(0, 1, 0), 63);
        due("all FIGURES", x.who(0, 1, 1), 1023);
        due("all HOURS", x.who(0, 1, 2), 32);
        due("the least of all", x.who(0, 1, 3), 0);
        rowOf(x, 30, 26, 22);
        due("KINDS of 0", x.who(0, 1, 0), 17);
        due("FIGURES of 0", x.who(0, 1, 1), 1023);
        due("HOURS of 0", x.who(0, 1, 2), 1);
        due("the least of 0", x.who(0, 1, 3), 31);
        due("KINDS of 1", x.who(1, 0, 0), 3);
        due("FIGURES of 1", x.who(1, 0, 1), 992);
        due("HOURS of 1", x.who(1, 0, 2), 10);
        due("the least of 1", x.who(1, 0, 3), 7);
        due("the ROW stays", x.count(6), 3);
        rowOf(x, 31);
        due("no KIND", x.who(0, 1, 0), 0);
        due("no FIGURE", x.who(0, 1, 1), 0);
        due("no HOURS", x.who(0, 1, 2), 0);
        due("no least", x.who(0, 1, 3), -9);
        due("who(0, 0, 9)", x.who(0, 0, 9), -1);
        due("who(0, 2, 0)", x.who(0, 2, 0), -1);
        due("who(0, 1, 4)", x.who(0, 1, 4), -2);
        due("who(0, 1, -1)", x.who(0, 1, -1), -2);
        x.joins(0, 1);
        rowOf(x, 30, 30);
        due("apart it stays", x.who(0, 1, 2), 32);
        due("KIND stays", x.personOf(0, 0), 0);
    }

    private static void p26Ways() {
        int[] want = {0, 0, 0, 0, 0, 0, 1, 1, 1, 1, 1, 1, 1, 1, 1, 1, 1, 1, 1, 11, 11, 11};
        PrayerMatsFace x = pair();
        for (int v = 0; v < want.length; v++) {
            x.quarrels(0, 1, v);
            due("ways with QUARREL " + v, x.ways(0, 1), want[v]);
        }
        x.quarrels(0, 1, 99);
        due("ways with QUARREL 99", x.ways(1, 0), 11);
        due("ways(1, 1)", x.ways(1, 1), -1);
        due("ways(0, 2)", x.ways(0, 2), -1);
    }

    private static void fraction(String call, long above, long below, long wantAbove, long wantBelow) {
        due(call + " above", above, wantAbove);
        due(call + " below", below, wantBelow);
    }

    private static void awayIs(PrayerMatsFace x, int person, int v, int n, int t, long above, long below) {
        int other = 1 - person;
        fraction("away(" + person + ", " + other + ", " + v + ", " + n + ", " + t + ")",
            x.away(person, other, v, n, t, 0), x.away(person, other, v, n, t, 1), above, below);
    }

    private static void p27Away() {
        PrayerMatsFace x = pair();
        awayIs(x, 0, 25, 1, 4, 0, 1);
        awayIs(x, 0, 26, 1, 4, 3, 4);
        awayIs(x, 0, 38, 1, 4, 3, 4);
        awayIs(x, 0, 39, 1, 4, 1, 1);
        awayIs(x, 0, 22, 2, 4, 9, 16);
        awayIs(x, 0, 35, 2, 4, 15, 16);
        awayIs(x, 0, 35, 2, 2, 3, 4);
        awayIs(x, 1, 26, 1, 20, 19, 20);
        awayIs(x, 1, 35, 1, 20, 1, 1);
        awayIs(x, 0, 30, 0, 2, 1, 1);
        awayIs(x, 0, 29, 0, 2, 0, 1);
        awayIs(x, 0, 0, 8, 20, 16983563041L, 25600000000L);
        awayIs(x, 0, 99, 8, 20, 1, 1);
        x.joins(0, 1);
        awayIs(x, 0, 30, 8, 3, 1, 1);
        awayIs(x, 0, 29, 8, 3, 0, 1);
        due("away of one twice", x.away(0, 0, -1, -1, 1, 2), LONG + 1);
        due("away of nobody", x.away(2, 0, 0, 0, 2, 0), LONG + 1);
        due("away v below", x.away(0, 1, -1, 9, 21, 2), LONG + 4);
        due("away n below", x.away(0, 1, 100, -1, 2, 2), LONG + 4);
        due("away t below", x.away(0, 1, 100, 9, 1, 2), LONG + 4);
        due("away v above", x.away(0, 1, 100, 0, 2, 2), LONG + 6);
        due("away n above", x.away(0, 1, 0, 9, 2, 2), LONG + 6);
        due("away t above", x.away(0, 1, 0, 0, 21, 2), LONG + 6);
        due("away part", x.away(0, 1, 0, 0, 2, 2), LONG + 2);
        due("away part below 0", x.away(0, 1, 0, 0, 2, -1), LONG + 2);
        due("refusals -1", x.count(11), 2);
        due("refusals -2", x.count(12), 2);
        due("refusals -4", x.count(14), 3);
        due("refusals -6", x.count(16), 3);
    }

    private static void p28Fullest() {
        PrayerMatsFace x = pair();
        due("of several the least", x.fullest(0), 0);
        due("how many", x.fullest(1), 2);
        x.comes(0, 24);
        due("fullest(0)", x.fullest(0), 4);
        due("fullest(1)", x.fullest(1), 2);
        x.comes(0, 0);
        x.comes(1, 0);
        due("none come: the HOUR", x.fullest(0), 0);
        due("none come", x.fullest(1), 0);
        due("fullest(2)", x.fullest(2), -2);
        due("fullest(-1)", x.fullest(-1), -2);
    }

    private static void p29Charmer() {
        due("nobody", new PrayerMatsFace().charmer(), -9);
        due("of each KIND", oneOfEachKind().charmer(), 5);
        due("of several the least", told("p3900;p0900;p5000;").charmer(), 1);
        due("without CHARM", told("p3900;p0000;").charmer(), 0);
    }

    private static void p30Friends() {
        PrayerMatsFace x = told("p0000;p0000;p0900;");
        due("LIKE each other 60", x.friends(), 3);
        x.quarrels(0, 2, 1);
        due("one only 59", x.friends(), 2);
        x.quarrels(0, 1, 1);
        due("both 59", x.friends(), 1);
        x.comes(0, 1);
        x.comes(1, 3);
        due("an HOUR together", x.friends(), 2);
        due("nobody", new PrayerMatsFace().friends(), 0);
    }

    private static void p31Chain() {
        PrayerMatsFace x = told("p0100;p0200;p0300;");
        due("chain(0)", x.chain(0), 3);
        due("chain(1)", x.chain(1), 2);
        due("chain(2)", x.chain(2), 2);
        due("chain(3)", x.chain(3), -1);
        due("chain(-1)", x.chain(-1), -1);
        due("alone", told("p0000;").chain(0), 1);
    }

    private static void p32Lonely() {
        PrayerMatsFace x = told("p0000;p0000;p0000;q0111;q0211;q1210;");
        due("whom nobody would rather", x.lonely(), 1);
        x.quarrels(1, 2, 11);
        due("all of them", x.lonely(), 7);
        x.quarrels(0, 1, 0);
        x.joins(0, 1);
        due("alone by two on a mat", x.lonely(), 4);
        x.quarrels(0, 1, 12);
        due("each would rather the third", x.lonely(), 0);
        due("nobody", new PrayerMatsFace().lonely(), 0);
        due("one", told("p0931;").lonely(), 1);
    }

    private static void p33Spread() {
        PrayerMatsFace x = told("p0000;");
        due("one", x.spread(), 0);
        x.person(0, 0, 0);
        x.quarrels(0, 1, 40);
        due("one two", x.spread(), 0);
        x.person(0, 0, 0);
        due("three", x.spread(), 40);
        x.quarrels(0, 2, 15);
        x.quarrels(1, 2, 99);
        due("the greatest less the least", x.spread(), 84);
    }

    private static void p34Mean() {
        PrayerMatsFace x = told("p0000;");
        fraction("mean of none", x.mean(0), x.mean(1), 0, 1);
        x.person(0, 0, 0);
        x.person(0, 0, 0);
        fraction("mean 0", x.mean(0), x.mean(1), 0, 1);
        x.quarrels(0, 1, 10);
        fraction("mean of three", x.mean(0), x.mean(1), 10, 3);
        x.quarrels(1, 2, 5);
        fraction("mean in lowest terms", x.mean(0), x.mean(1), 5, 1);
        due("mean(2)", x.mean(2), LONG + 2);
        due("mean(-1)", x.mean(-1), LONG + 2);
        due("refusals -2", x.count(12), 2);
    }

    private static void p35Enemy() {
        PrayerMatsFace x = told("p0000;p0000;p0000;p0000;q0210;q0310;");
        due("of several the least", x.enemy(0), 2);
        due("without QUARREL", x.enemy(1), 0);
        due("enemy(3)", x.enemy(3), 0);
        due("enemy(4)", x.enemy(4), -1);
        due("enemy(-1)", x.enemy(-1), -1);
        due("nobody else", told("p0000;").enemy(0), -9);
    }

    private static void p36Peace() {
        due("nobody", new PrayerMatsFace().peace(), 0);
        PrayerMatsFace x = pair();
        due("peace()", x.peace(), 8);
        x.joins(0, 1);
        due("no mats", x.peace(), 0);
        PrayerMatsFace slow = told("p1001;p0001;q0199;m01;");
        due("behind 99 DAYS", slow.peace(), 99);
        PrayerMatsFace turns = told("p0031;p0031;p1031;p0000;q0115;m01;m23;");
        due("never at one time", turns.peace(), -9);
        turns.quarrels(0, 1, 0);
        due("at once", turns.peace(), 0);
        due("DAY stays", turns.count(1), 0);
    }

    private static void p37Helps() {
        PrayerMatsFace x = pair();
        due("comes already", x.helps(0, 1, 5), 0);
        due("helps(1, 1, 2)", x.helps(1, 1, 2), 6);
        due("helps(1, 1, 5)", x.helps(1, 1, 5), 10);
        due("helps(1, 3, 0)", x.helps(1, 3, 0), 0);
        x.comes(0, 21);
        due("below 0", x.helps(1, 1, 2), -6);
        due("HOURS stay", x.personOf(1, 2), 21);
        due("helps(2, 0, -1)", x.helps(2, 0, -1), INT + 1);
        due("helps(0, 5, 100)", x.helps(0, 5, 100), INT + 1);
        due("helps(0, -1, 0)", x.helps(0, -1, 0), INT + 1);
        due("helps(0, 4, -1)", x.helps(0, 4, -1), INT + 4);
        due("helps(0, 4, 100)", x.helps(0, 4, 100), INT + 6);
        due("helps(0, 4, 99)", x.helps(0, 4, 99), 0);
        x.joins(0, 1);
        due("alone", x.helps(1, 1, 2), 0);
        due("refusals", x.count(11) * 100 + x.count(14) * 10 + x.count(16), 311);
    }

    private static void p38Doubled() {
        due("nobody", new PrayerMatsFace().doubled(), 0);
        due("of several the least", pair().doubled(), 0);
        due("the HOUR both come", told("p0031;p0004;q0199;m01;").doubled(), 2);
        due("the HOUR none comes", told("p0007;p1000;q0150;m01;").doubled(), 3);
        due("once more behind the others", told("p0031;p0004;q0102;m01;").doubled(), 2);
        PrayerMatsFace two = told("p2004;p0004;p2016;p2016;q0199;q2399;m01;m23;");
        due("of two mats", two.doubled(), 4);
    }

    private static void p39Row() {
        PrayerMatsFace x = new PrayerMatsFace();
        due("row(-1)", x.row(-1), -4);
        due("row(100)", x.row(100), -6);
        due("row(0)", x.row(0), 1);
        for (int i = 2; i <= 12; i++) due("row no. " + i, x.row(99), i);
        due("row no. 13", x.row(5), -6);
        due("row(-1) when full", x.row(-1), -4);
        due("in the ROW", x.count(6), 12);
    }

    private static void p40Judge() {
        PrayerMatsFace x = told("p0000;p0000;p0000;q0130;q0207;");
        rowOf(x, 0, 30, 7);
        due("judge(3)", x.judge(3), -1);
        due("judge(-1)", x.judge(-1), -1);
        due("the ROW stays", x.count(6), 3);
        due("all so", x.judge(0), -9);
        due("the ROW has none", x.count(6), 0);
        rowOf(x, 0, 30, 7, 0);
        due("nobody there", x.judge(0), 3);
        due("the ROW has none then", x.count(6), 0);
        rowOf(x, 1, 30, 8);
        due("not 0 with himself", x.judge(0), 0);
        rowOf(x, 30, 0, 1);
        due("the third", x.judge(1), 2);
        rowOf(x, 30);
        due("fewer than PEOPLE", x.judge(1), -9);
        due("nothing told", x.judge(2), -9);
    }

    private static void p41Clear() {
        PrayerMatsFace x = told("p0000;");
        due("clear() of none", x.clear(), 0);
        rowOf(x, 5, 6);
        due("clear()", x.clear(), 2);
        due("in the ROW", x.count(6), 0);
        due("row behind clear()", x.row(3), 1);
        due("judge by the new", x.judge(0), 0);
    }

    private static void p42Lots() {
        due("nobody", new PrayerMatsFace().lots(20, 7, 0), 0);
        due("nobody: how many", new PrayerMatsFace().lots(20, 7, 1), 0);
        due("one", told("p0000;").lots(5, 7, 1), 0);
        PrayerMatsFace x = told("p0031;p0031;q0199;");
        due("two who always come", x.lots(3, 1, 0), 0);
        due("two who always come: how many", x.lots(3, 1, 1), 3);
        due("nothing changes", x.between(0, 1, 0) + x.count(1) + x.count(2) + x.count(7), 99);
        due("lots(0, 1, 9)", x.lots(0, 1, 9), -4);
        due("lots(21, 1, 9)", x.lots(21, 1, 9), -6);
        due("lots(1, 1, 2)", x.lots(1, 1, 2), -2);
        due("lots(20, 1, -1)", x.lots(20, 1, -1), -2);
        PrayerMatsFace y = told("p1000;p1000;p1000;q0107;");
        due("nobody comes", y.lots(4, -5, 0), 28);
        due("nobody comes: how many", y.lots(4, -5, 1), 8);
    }

    private static void p43Image() {
        PrayerMatsFace x = pair();
        x.days(3);
        due("image()", x.image(), 3);
        due("what can be TAKEN BACK stays", x.count(7), 1);
        x.days(4);
        due("taken anew", x.image(), 7);
        x.days(1);
        due("restore()", x.restore(), 7);
        due("QUARREL", x.between(0, 1, 0), 2);
    }

    private static void p44Restore() {
        PrayerMatsFace x = pair();
        due("there is none", x.restore(), -3);
        due("refusals -3", x.count(13), 1);
        x.days(2);
        x.image();
        x.row(5);
        x.feed('m');
        x.comes(0, 1);
        x.quarrels(0, 1, 77);
        x.joins(0, 1);
        x.days(9);
        x.person(5, 5, 5);
        x.quarrels(2, 0, 44);
        x.joins(2, 1);
        due("restore()", x.restore(), 2);
        due("PEOPLE", x.count(0), 2);
        due("DAY", x.count(1), 2);
        due("mats", x.personOf(0, 3) * 10 + x.personOf(1, 3), 10);
        due("QUARRELS", x.count(3), 22);
        due("HOURS", x.personOf(0, 2), 31);
        due("letters stay", x.count(5), 1);
        due("the ROW stays", x.count(6), 1);
        due("none can be TAKEN BACK", x.count(7), 0);
        due("REFUSALS stay", x.count(13), 1);
        due("a new one has the number", x.person(0, 0, 0), 2);
        due("and no old QUARREL", x.between(2, 0, 0), 0);
        due("and no old MATE", x.personOf(2, 3), -9);
        due("restored again", x.restore(), 2);
        due("PEOPLE again", x.count(0), 2);
        PrayerMatsFace none = new PrayerMatsFace();
        none.image();
        none.person(0, 0, 0);
        due("restored to nobody", none.restore(), 0);
        due("nobody", none.count(0), 0);
    }

    private static void p45Count() {
        PrayerMatsFace x = told("p0431;p1721;p2315;p3607;p4931;p5230;q0130;q2305;m01;m23;d01;");
        x.feed('p');
        x.row(1);
        x.comes(0, 31);
        x.personOf(9, 0);
        x.fullest(2);
        x.fullest(3);
        x.restore();
        x.days(0);
        x.days(0);
        x.days(61);
        due("PEOPLE", x.count(0), 6);
        due("DAY", x.count(1), 1);
        due("mats", x.count(2), 2);
        due("QUARRELS", x.count(3), 26);
        due("who come", x.count(4), 24);
        due("letters", x.count(5), 1);
        due("the ROW", x.count(6), 1);
        due("TAKEN BACK", x.count(7), 1);
        due("REFUSALS -1", x.count(11), 1);
        due("REFUSALS -2", x.count(12), 2);
        due("REFUSALS -3", x.count(13), 1);
        due("REFUSALS -4", x.count(14), 2);
        due("REFUSALS -5", x.count(15), 0);
        due("REFUSALS -6", x.count(16), 1);
        int[] others = {-1, 8, 9, 10, 17, LEAST, MOST, -9};
        for (int what : others) due("count(" + what + ")", x.count(what), -9);
        due("REFUSALS -2 stay", x.count(12), 2);
    }

    public static void main(String[] args) {
        p1New();
        p2Feed();
        p3QuarterGood();
        p3QuarterFaultsOfLetters();
        p3QuarterFaultsOfStatements();
        p4PersonOf();
        p4KindsByFigure();
        p5Between();
        p6Person();
        p7Comes();
        p8Quarrels();
        p9Joins();
        p10Days();
        p11Back();
        p12Behind();
        p13All();
        p14Mended();
        p15Never();
        p16Turn();
        p17Leaves();
        p18Pairings();
        p19BestPairing();
        p20Soonest();
        p21MateFor();
        p22HoursFor();
        p23Swap();
        p24Glad();
        p25Who();
        p26Ways();
        p27Away();
        p28Fullest();
        p29Charmer();
        p30Friends();
        p31Chain();
        p32Lonely();
        p33Spread();
        p34Mean();
        p35Enemy();
        p36Peace();
        p37Helps();
        p38Doubled();
        p39Row();
        p40Judge();
        p41Clear();
        p42Lots();
        p43Image();
        p44Restore();
        p45Count();
        System.out.println(wrong == 0 ? "all answers are as due" : wrong + " answers are not as due");
        if (wrong != 0) System.exit(1);
    }
}
