import java.util.ArrayList;
import java.util.Arrays;
import java.util.List;
import java.util.regex.Matcher;
import java.util.regex.Pattern;

/** Long runs of calls on PrayerMatsFace beside a second, plainer count of every answer. */
public final class ModelTest {
    private static final int RUNS = 400;
    private static final int CALLS = 300;
    private static final int SHOWN = 20;

    private static int wrong = 0;

    /** A world is copied whole for everything that is only in mind. */
    private static final class World {
        int[] kind = {}, figure = {}, hours = {}, mate = {};
        int[][] quarrel = new int[6][6];
        int day;

        World copy() {
            World w = new World();
            w.kind = kind.clone();
            w.figure = figure.clone();
            w.hours = hours.clone();
            w.mate = mate.clone();
            for (int i = 0; i < 6; i++) w.quarrel[i] = quarrel[i].clone();
            w.day = day;
            return w;
        }

        int size() {
            return kind.length;
        }

        boolean has(int p) {
            return p >= 0 && p < size();
        }

        boolean two(int a, int b) {
            return has(a) && has(b) && a != b;
        }

        private static int[] with(int[] row, int v) {
            int[] longer = Arrays.copyOf(row, row.length + 1);
            longer[row.length] = v;
            return longer;
        }

        void add(int k, int f, int h) {
            kind = with(kind, k);
            figure = with(figure, f);
            hours = with(hours, h);
            mate = with(mate, -9);
            for (int i = 0; i < 6; i++) {
                quarrel[size() - 1][i] = 0;
                quarrel[i][size() - 1] = 0;
            }
        }

        int soft(int p) {
            int merchant = figure[p] / 5;
            int widower = 1 + 1;
            return new int[] {1, merchant, 3, widower, merchant + 1, 2 * widower}[kind[p]];
        }

        int sore(int p) {
            int merchant = 1 + 2;
            int widower = figure[p] / 3;
            return new int[] {1, merchant, 0, widower, merchant / 2, widower}[kind[p]];
        }

        int charm(int p) {
            int merchant = figure[p] / 2;
            return new int[] {figure[p], merchant, figure[p] + 3, 0, merchant + 4, 9}[kind[p]];
        }

        boolean comes(int p, int hour) {
            return (hours[p] & (1 << hour)) != 0;
        }

        void setQuarrel(int a, int b, int v) {
            quarrel[a][b] = v;
            quarrel[b][a] = v;
        }

        void hour(int hour) {
            for (int a = 0; a < size(); a++) {
                int b = mate[a];
                if (b < a) continue;
                int v = quarrel[a][b];
                if (comes(a, hour) && comes(b, hour)) v -= soft(a) + soft(b);
                else if (comes(a, hour)) v += sore(a);
                else if (comes(b, hour)) v += sore(b);
                setQuarrel(a, b, v < 0 ? 0 : v > 99 ? 99 : v);
            }
        }

        World after(int days) {
            World w = copy();
            for (int d = 0; d < days; d++) {
                for (int h = 0; h < 5; h++) w.hour(h);
                w.day++;
            }
            return w;
        }

        World mats(int[] mates) {
            World w = copy();
            w.mate = mates.clone();
            return w;
        }

        void part(int p) {
            if (mate[p] == -9) return;
            mate[mate[p]] = -9;
            mate[p] = -9;
        }

        void join(int a, int b) {
            part(a);
            part(b);
            mate[a] = b;
            mate[b] = a;
        }

        void toggle(int a, int b) {
            if (mate[a] == b) part(a);
            else join(a, b);
        }

        List<int[]> twos() {
            List<int[]> twos = new ArrayList<>();
            for (int a = 0; a < size(); a++) {
                for (int b = a + 1; b < size(); b++) twos.add(new int[] {a, b});
            }
            return twos;
        }

        List<int[]> mats() {
            List<int[]> mats = new ArrayList<>();
            for (int[] two : twos()) {
                if (mate[two[0]] == two[1]) mats.add(two);
            }
            return mats;
        }

        int sum() {
            int sum = 0;
            for (int[] two : twos()) sum += quarrel[two[0]][two[1]];
            return sum;
        }

        int zeros() {
            int zeros = 0;
            for (int[] two : twos()) zeros += quarrel[two[0]][two[1]] == 0 ? 1 : 0;
            return zeros;
        }

        int likes(int a, int b) {
            int both = 0;
            for (int h = 0; h < 5; h++) both += comes(a, h) && comes(b, h) ? 1 : 0;
            return 60 - quarrel[a][b] + both + charm(b);
        }

        boolean rather(int a, int b) {
            return mate[a] == -9 ? likes(a, b) >= 50 : likes(a, b) > likes(a, mate[a]);
        }

        List<int[]> leaving() {
            List<int[]> leaving = new ArrayList<>();
            for (int[] t : twos()) {
                if (mate[t[0]] != t[1] && rather(t[0], t[1]) && rather(t[1], t[0])) leaving.add(t);
            }
            return leaving;
        }

        int rid() {
            int bits = 0;
            for (int p = 0; p < size(); p++) {
                if (mate[p] != -9 && likes(p, mate[p]) < 50) bits |= 1 << p;
            }
            return bits;
        }

        /** All mates of all, counted up like numbers of base 7, that are true of two by two. */
        List<int[]> pairings() {
            List<int[]> found = new ArrayList<>();
            int[] way = new int[size()];
            Arrays.fill(way, -1);
            while (true) {
                boolean good = true;
                for (int p = 0; p < size() && good; p++) {
                    good = way[p] == -1 || way[p] != p && way[way[p]] == p;
                }
                if (good) {
                    int[] mates = way.clone();
                    for (int p = 0; p < mates.length; p++) mates[p] = mates[p] == -1 ? -9 : mates[p];
                    found.add(mates);
                }
                int p = size() - 1;
                while (p >= 0 && way[p] == size() - 1) way[p--] = -1;
                if (p < 0) return found;
                way[p]++;
            }
        }
    }

    /** The answers as the document tells them. */
    private static final class Model {
        World w = new World();
        World image;
        final List<World> past = new ArrayList<>();
        final StringBuilder letters = new StringBuilder();
        final List<Integer> row = new ArrayList<>();
        final int[] refusals = new int[7];

        int no(int number) {
            refusals[-number]++;
            return number;
        }

        void keep() {
            past.add(w.copy());
            if (past.size() > 8) past.remove(0);
        }

        List<int[]> pairings() {
            return PAIRINGS.get(w.size());
        }

        int feed(int letter) {
            if (letter < 0) return no(-4);
            if (letter > 255 || letters.length() == 96) return no(-6);
            letters.append((char) letter);
            return letters.length();
        }

        private static final String STATEMENT = "(p\\d{4};|h\\d{3};|q\\d{4};|m\\d{2};|d\\d{2};)";
        private static final Pattern QUARTER = Pattern.compile(STATEMENT + "+");

        int quarter() {
            String text = letters.toString();
            letters.setLength(0);
            for (int end = 1; end <= text.length(); end++) {
                Matcher m = QUARTER.matcher(text.substring(0, end));
                if (!m.matches() && !m.hitEnd()) return -1000 - (end - 1);
            }
            if (!QUARTER.matcher(text).matches()) return -1000 - text.length();
            World then = w.copy();
            int place = 0;
            int statements = 0;
            for (String s : text.split(";")) {
                int a = s.charAt(1) - '0';
                int b = s.charAt(2) - '0';
                int last = Integer.parseInt(s.substring(s.length() - 2));
                boolean good;
                switch (s.charAt(0)) {
                    case 'p':
                        good = a < 6 && last < 32 && then.size() < 6;
                        if (good) then.add(a, b, last);
                        break;
                    case 'h':
                        good = then.has(a) && last < 32;
                        if (good) then.hours[a] = last;
                        break;
                    case 'q':
                        good = then.two(a, b);
                        if (good) then.setQuarrel(a, b, last);
                        break;
                    case 'm':
                        good = then.two(a, b);
                        if (good) then.toggle(a, b);
                        break;
                    default:
                        good = last >= 1 && last <= 60 && then.day + last <= 999;
                        if (good) then = then.after(last);
                }
                if (!good) return -2000 - place;
                place += s.length() + 1;
                statements++;
            }
            w = then;
            past.clear();
            return statements;
        }

        int personOf(int p, int what) {
            if (!w.has(p)) return no(-1);
            if (what < 0 || what > 6) return no(-2);
            return new int[] {w.kind[p], w.figure[p], w.hours[p], w.mate[p], w.soft(p), w.sore(p), w.charm(p)}[what];
        }

        int between(int a, int b, int what) {
            if (!w.two(a, b)) return no(-1);
            if (what < 0 || what > 1) return no(-2);
            return what == 0 ? w.quarrel[a][b] : 1000 + w.likes(a, b);
        }

        int person(int k, int f, int h) {
            if (k < 0 || k > 5) return no(-2);
            if (f < 0 || h < 0) return no(-4);
            if (f > 9 || h > 31 || w.size() == 6) return no(-6);
            w.add(k, f, h);
            past.clear();
            return w.size() - 1;
        }

        int comes(int p, int h) {
            if (!w.has(p)) return no(-1);
            if (h < 0) return no(-4);
            if (h > 31) return no(-6);
            keep();
            int old = w.hours[p];
            w.hours[p] = h;
            return old;
        }

        int quarrels(int a, int b, int v) {
            if (!w.two(a, b)) return no(-1);
            if (v < 0) return no(-4);
            if (v > 99) return no(-6);
            keep();
            int old = w.quarrel[a][b];
            w.setQuarrel(a, b, v);
            return old;
        }

        int joins(int a, int b) {
            if (!w.two(a, b)) return no(-1);
            keep();
            w.toggle(a, b);
            return w.mats().size();
        }

        int days(int n) {
            if (n < 1) return no(-4);
            if (n > 60 || w.day + n > 999) return no(-6);
            keep();
            w = w.after(n);
            return w.sum();
        }

        int back() {
            if (past.isEmpty()) return no(-3);
            w = past.remove(past.size() - 1);
            return past.size();
        }

        int behind(int a, int b, int n) {
            if (!w.two(a, b)) return no(-1);
            if (n < 0) return no(-4);
            if (n > 99) return no(-6);
            return w.after(n).quarrel[a][b];
        }

        int all(int n, int what) {
            if (n < 0) return no(-4);
            if (n > 99) return no(-6);
            if (what < 0 || what > 2) return no(-2);
            World then = w.after(n);
            if (what == 0) return then.sum();
            if (what == 1) return then.zeros();
            int[] best = null;
            for (int[] t : then.twos()) {
                if (best == null || then.quarrel[t[0]][t[1]] > then.quarrel[best[0]][best[1]]) best = t;
            }
            return best == null ? -9 : 10 * best[0] + best[1];
        }

        int mended(int a, int b) {
            if (!w.two(a, b)) return no(-1);
            return when(w, a, b);
        }

        private static int when(World start, int a, int b) {
            World then = start.copy();
            for (int n = 0; n <= 99; n++) {
                if (then.quarrel[a][b] == 0) return n;
                then = then.after(1);
            }
            return -9;
        }

        int never() {
            World then = w.after(99);
            int never = 0;
            for (int[] t : then.mats()) never += then.quarrel[t[0]][t[1]] > 0 ? 1 : 0;
            return never;
        }

        int turn(int a, int b) {
            if (!w.two(a, b)) return 1000000000 - no(-1);
            World then = w.copy();
            then.join(a, b);
            then.setQuarrel(a, b, 50);
            return then.after(1).quarrel[a][b] - 50;
        }

        int leaves(int what) {
            if (what < 0 || what > 2) return no(-2);
            List<int[]> leaving = w.leaving();
            if (what == 0) return leaving.isEmpty() ? -9 : 10 * leaving.get(0)[0] + leaving.get(0)[1];
            return what == 1 ? leaving.size() : w.rid();
        }

        int pairings(int p) {
            if (p != -1 && !w.has(p)) return no(-1);
            List<int[]> steady = new ArrayList<>();
            for (int[] way : pairings()) {
                World then = w.mats(way);
                if (then.leaving().isEmpty() && then.rid() == 0) steady.add(way);
            }
            if (p == -1) return steady.size();
            return steady.isEmpty() ? -9 : steady.get(0)[p];
        }

        int bestPairing(int n, int p) {
            if (p != -1 && !w.has(p)) return no(-1);
            if (n < 0) return no(-4);
            if (n > 99) return no(-6);
            int least = Integer.MAX_VALUE;
            int[] best = null;
            for (int[] way : pairings()) {
                int sum = w.mats(way).after(n).sum();
                if (sum >= least) continue;
                least = sum;
                best = way;
            }
            return p == -1 ? least : best[p];
        }

        int soonest(int a, int b) {
            if (!w.two(a, b)) return no(-1);
            int soonest = -9;
            World together = w.copy();
            together.join(a, b);
            World apart = w.copy();
            apart.part(a);
            apart.part(b);
            for (World then : new World[] {apart, together}) {
                int when = when(then, a, b);
                if (when != -9 && (soonest == -9 || when < soonest)) soonest = when;
            }
            return soonest;
        }

        private int favourite(int p) {
            int best = -9;
            for (int q = w.size() - 1; q >= 0; q--) {
                if (q != p && (best == -9 || w.likes(p, q) >= w.likes(p, best))) best = q;
            }
            return best;
        }

        private int wouldHave(int p) {
            int bits = 0;
            for (int q = 0; q < w.size(); q++) {
                if (q != p && w.rather(q, p)) bits |= 1 << q;
            }
            return bits;
        }

        int mateFor(int p, int what) {
            if (!w.has(p)) return no(-1);
            if (what < 0 || what > 1) return no(-2);
            return what == 0 ? favourite(p) : wouldHave(p);
        }

        int hoursFor(int p, int what) {
            if (!w.has(p)) return no(-1);
            if (what < 0 || what > 1) return no(-2);
            if (w.mate[p] == -9) return -9;
            int best = Integer.MAX_VALUE;
            for (int h = 0; h < 32; h++) {
                World then = w.copy();
                then.hours[p] = h;
                int when = when(then, p, w.mate[p]);
                if (when != -9) best = Math.min(best, when * 1000 + Integer.bitCount(h) * 100 + h);
            }
            if (best == Integer.MAX_VALUE) return -9;
            return what == 0 ? best % 100 : best / 1000;
        }

        private int allLikes(World v) {
            int sum = 0;
            for (int p = 0; p < v.size(); p++) sum += v.mate[p] == -9 ? 0 : v.likes(p, v.mate[p]);
            return sum;
        }

        int swap() {
            int most = allLikes(w);
            int best = -9;
            List<int[]> mats = w.mats();
            for (int i = 0; i < mats.size(); i++) {
                for (int j = i + 1; j < mats.size(); j++) {
                    World then = w.copy();
                    then.join(mats.get(i)[0], mats.get(j)[1]);
                    then.join(mats.get(j)[0], mats.get(i)[1]);
                    if (allLikes(then) <= most) continue;
                    most = allLikes(then);
                    best = 10 * mats.get(i)[0] + mats.get(j)[0];
                }
            }
            return best;
        }

        int glad(int p) {
            if (!w.has(p)) return no(-1);
            return w.mate[p] == -9 ? -9 : 1000 + w.likes(p, w.mate[p]);
        }

        private boolean fits(World v, int a, int b) {
            for (int n = 0; n < row.size(); n++) {
                if (v.after(n).quarrel[a][b] != row.get(n)) return false;
            }
            return true;
        }

        int who(int a, int b, int what) {
            if (!w.two(a, b)) return no(-1);
            if (what < 0 || what > 3) return no(-2);
            int bits = 0;
            int many = 0;
            int least = -9;
            for (int i = 0; i < (what == 0 ? 6 : what == 1 ? 10 : 32); i++) {
                World v = w.copy();
                (what == 0 ? v.kind : what == 1 ? v.figure : v.hours)[a] = i;
                if (!fits(v, a, b)) continue;
                bits |= 1 << i;
                many++;
                if (least == -9) least = i;
            }
            return what < 2 ? bits : what == 2 ? many : least;
        }

        int ways(int a, int b) {
            if (!w.two(a, b)) return no(-1);
            int[][] first = new int[2][2];
            int[][] second = new int[2][2];
            for (int x = 0; x < 2; x++) {
                for (int y = 0; y < 2; y++) {
                    int q = Math.max(0, w.quarrel[a][b] - 10 * x - 10 * y);
                    first[x][y] = 20 - q + (x == 0 && y == 1 ? 8 : 0) - (x == 1 && y == 0 ? 5 : 0);
                    second[x][y] = 20 - q + (y == 0 && x == 1 ? 8 : 0) - (y == 1 && x == 0 ? 5 : 0);
                }
            }
            for (int x = 0; x < 2; x++) {
                for (int y = 0; y < 2; y++) {
                    if (first[1 - x][y] <= first[x][y] && second[x][1 - y] <= second[x][y]) return 10 * x + y;
                }
            }
            return -9;
        }

        private static long part(long above, long below, int part) {
            if (above == 0) return part;
            long a = above;
            long b = below;
            while (a != b) {
                if (a > b) a = (a - 1) % b + 1;
                else b = (b - 1) % a + 1;
            }
            return (part == 0 ? above : below) / a;
        }

        long away(int a, int b, int v, int n, int t, int part) {
            long base = 4000000000000000000L;
            if (!w.two(a, b)) return base - no(-1);
            if (v < 0 || n < 0 || t < 2) return base - no(-4);
            if (v > 99 || n > 8 || t > 20) return base - no(-6);
            if (part < 0 || part > 1) return base - no(-2);
            long above = 0;
            long below = 0;
            for (int days = 0; days < 1 << n; days++) {
                World then = w.copy();
                long weight = 1;
                for (int d = 0; d < n; d++) {
                    boolean here = (days >> d & 1) == 1;
                    weight *= here ? t - 1 : 1;
                    then.hours[a] = here ? w.hours[a] : 0;
                    then = then.after(1);
                }
                below += weight;
                if (then.quarrel[a][b] <= v) above += weight;
            }
            return part(above, below, part);
        }

        int fullest(int what) {
            if (what < 0 || what > 1) return no(-2);
            int best = 0;
            int most = -1;
            for (int h = 0; h < 5; h++) {
                int come = 0;
                for (int p = 0; p < w.size(); p++) come += w.comes(p, h) ? 1 : 0;
                if (come <= most) continue;
                most = come;
                best = h;
            }
            return what == 0 ? best : most;
        }

        int charmer() {
            int best = -9;
            for (int p = w.size() - 1; p >= 0; p--) {
                if (best == -9 || w.charm(p) >= w.charm(best)) best = p;
            }
            return best;
        }

        int friends() {
            int friends = 0;
            for (int[] t : w.twos()) friends += w.likes(t[0], t[1]) >= 60 && w.likes(t[1], t[0]) >= 60 ? 1 : 0;
            return friends;
        }

        int chain(int p) {
            if (!w.has(p)) return no(-1);
            List<Integer> met = new ArrayList<>();
            for (int q = p; q != -9 && !met.contains(q); q = favourite(q)) met.add(q);
            return met.size();
        }

        int lonely() {
            int bits = 0;
            for (int p = 0; p < w.size(); p++) bits |= w.mate[p] == -9 && wouldHave(p) == 0 ? 1 << p : 0;
            return bits;
        }

        int spread() {
            int[] all = w.twos().stream().mapToInt(t -> w.quarrel[t[0]][t[1]]).sorted().toArray();
            return all.length == 0 ? 0 : all[all.length - 1] - all[0];
        }

        long mean(int part) {
            if (part < 0 || part > 1) return 4000000000000000000L - no(-2);
            return part(w.sum(), w.twos().size(), part);
        }

        int enemy(int p) {
            if (!w.has(p)) return no(-1);
            int best = -9;
            for (int q = w.size() - 1; q >= 0; q--) {
                if (q != p && (best == -9 || w.quarrel[p][q] >= w.quarrel[p][best])) best = q;
            }
            return best;
        }

        int peace() {
            World then = w.copy();
            for (int n = 0; n <= 99; n++) {
                World v = then;
                if (v.mats().stream().allMatch(t -> v.quarrel[t[0]][t[1]] == 0)) return n;
                then = then.after(1);
            }
            return -9;
        }

        int helps(int p, int hour, int n) {
            if (!w.has(p) || hour < 0 || hour > 4) return 1000000000 - no(-1);
            if (n < 0) return 1000000000 - no(-4);
            if (n > 99) return 1000000000 - no(-6);
            if (w.mate[p] == -9) return 0;
            World then = w.copy();
            then.hours[p] |= 1 << hour;
            return w.after(n).quarrel[p][w.mate[p]] - then.after(n).quarrel[p][w.mate[p]];
        }

        int doubled() {
            int best = -9;
            int least = Integer.MAX_VALUE;
            for (int h = 0; h < 5; h++) {
                World then = w.copy();
                for (int d = 0; d < 9; d++) {
                    then = then.after(1);
                    then.hour(h);
                }
                if (then.sum() >= least) continue;
                least = then.sum();
                best = h;
            }
            return best;
        }

        int row(int v) {
            if (v < 0) return no(-4);
            if (v > 99 || row.size() == 12) return no(-6);
            row.add(v);
            return row.size();
        }

        int judge(int p) {
            if (!w.has(p)) return no(-1);
            int answer = -9;
            for (int i = row.size() - 1; i >= 0; i--) {
                if (!w.has(i) || row.get(i) != (i == p ? 0 : w.quarrel[p][i])) answer = i;
            }
            row.clear();
            return answer;
        }

        int clear() {
            int had = row.size();
            row.clear();
            return had;
        }

        int lots(int n, int seed, int what) {
            if (n < 1) return no(-4);
            if (n > 20) return no(-6);
            if (what < 0 || what > 1) return no(-2);
            if (w.size() == 0) return 0;
            long z = seed;
            int sum = 0;
            int zeros = 0;
            for (int year = 0; year < n; year++) {
                World then = w.copy();
                for (int d = 0; d < 30; d++) {
                    z = (z * 1103515245L + 12345L) & 0xffffffffL;
                    int a = (int) ((z & 0x7fffffffL) / 65536L % w.size());
                    z = (z * 1103515245L + 12345L) & 0xffffffffL;
                    int b = (int) ((z & 0x7fffffffL) / 65536L % w.size());
                    if (a != b && then.mate[a] != b) then.join(a, b);
                    then = then.after(1);
                }
                sum += then.sum();
                zeros += then.zeros();
            }
            return what == 0 ? sum : zeros;
        }

        int image() {
            image = w.copy();
            return w.day;
        }

        int restore() {
            if (image == null) return no(-3);
            w = image.copy();
            past.clear();
            return w.day;
        }

        int count(int what) {
            if (what >= 11 && what <= 16) return refusals[what - 10];
            int come = 0;
            for (int p = 0; p < w.size(); p++) come += Integer.bitCount(w.hours[p]);
            int[] counts = {w.size(), w.day, w.mats().size(), w.sum(), come, letters.length(), row.size(), past.size()};
            return what < 0 || what > 7 ? -9 : counts[what];
        }
    }

    private static final List<List<int[]>> PAIRINGS = pairingsOfAllSizes();

    private static List<List<int[]>> pairingsOfAllSizes() {
        List<List<int[]>> all = new ArrayList<>();
        World w = new World();
        for (int size = 0; size <= 6; size++) {
            all.add(w.pairings());
            if (size < 6) w.add(0, 0, 0);
        }
        return all;
    }

    private static long dice = 20261118L;

    private static int below(int n) {
        dice = dice * 6364136223846793005L + 1442695040888963407L;
        return (int) ((dice >>> 33) % n);
    }

    /** Mostly from 0 to most, now and then a little or far outside. */
    private static int about(int most) {
        int odds = below(60);
        if (odds == 0) return -1 - below(3);
        if (odds == 1) return most + 1 + below(3);
        if (odds == 2) return below(2) == 0 ? Integer.MIN_VALUE : Integer.MAX_VALUE;
        return below(most + 1);
    }

    private static int somebody(Model m) {
        return about(Math.max(0, m.w.size() - 1));
    }

    private static int another(Model m, int one) {
        int other = somebody(m);
        return other == one && below(10) > 0 ? (one + 1) % Math.max(1, m.w.size()) : other;
    }

    private static String digits(int v, int width) {
        String text = "0" + v;
        return text.substring(text.length() - width);
    }

    private static String letters(Model m) {
        StringBuilder s = new StringBuilder();
        int statements = 1 + below(12);
        int size = m.w.size();
        for (int i = 0; i < statements; i++) {
            int a = below(Math.max(1, below(30) == 0 ? 7 : size));
            int b = below(Math.max(1, below(30) == 0 ? 7 : size));
            if (a == b && below(15) > 0) b = (a + 1) % Math.max(2, size);
            switch (below(size < 4 ? 6 : 5)) {
                case 0: s.append('h').append(a).append(digits(about31(), 2)); break;
                case 1: s.append('q').append(a).append(b).append(digits(below(100), 2)); break;
                case 2: s.append('m').append(a).append(b); break;
                case 3: s.append('d').append(digits(below(20) == 0 ? below(100) : 1 + below(9), 2)); break;
                default:
                    if (size == 6 && below(10) > 0) {
                        s.append('m').append(a).append(b);
                    } else {
                        s.append('p').append(below(20) == 0 ? below(10) : below(6)).append(below(10));
                        s.append(digits(about31(), 2));
                        size = Math.min(6, size + 1);
                    }
            }
            s.append(';');
        }
        if (below(8) == 0) s.setCharAt(below(s.length()), "pqhmd;0129x ".charAt(below(12)));
        if (below(12) == 0) s.setLength(below(s.length()));
        return s.toString();
    }

    private static int about31() {
        return below(25) == 0 ? below(100) : below(3) == 0 ? 31 : below(32);
    }

    private static void due(int run, List<String> calls, String call, long got, long want) {
        calls.add(call + " = " + want);
        if (got == want) return;
        wrong++;
        if (wrong > SHOWN) return;
        System.out.println("run " + run + ", call " + calls.size() + ": " + call + " answered " + got + ", due is " + want);
        if (wrong == 1) System.out.println("the calls before it: " + calls);
    }

    private static String named(String name, int... arguments) {
        String list = Arrays.toString(arguments);
        return name + "(" + list.substring(1, list.length() - 1) + ")";
    }

    private static void changing(int run, List<String> calls, PrayerMatsFace x, Model m, int which) {
        int a = somebody(m);
        int b = another(m, a);
        switch (which) {
            case 0: {
                int k = about(5), f = about(9), h = below(2) == 0 ? 31 : about(31);
                due(run, calls, named("person", k, f, h), x.person(k, f, h), m.person(k, f, h));
                break;
            }
            case 1: {
                int h = about(31);
                due(run, calls, named("comes", a, h), x.comes(a, h), m.comes(a, h));
                break;
            }
            case 2: {
                int v = below(3) == 0 ? about(12) : about(99);
                due(run, calls, named("quarrels", a, b, v), x.quarrels(a, b, v), m.quarrels(a, b, v));
                break;
            }
            case 3: due(run, calls, named("joins", a, b), x.joins(a, b), m.joins(a, b)); break;
            case 4: {
                int n = below(3) == 0 ? about(60) : about(5);
                due(run, calls, named("days", n), x.days(n), m.days(n));
                break;
            }
            case 5: due(run, calls, "back()", x.back(), m.back()); break;
            case 6: if (below(2) == 0) due(run, calls, "image()", x.image(), m.image()); break;
            case 7: if (below(3) == 0) due(run, calls, "restore()", x.restore(), m.restore()); break;
            case 8: {
                String text = letters(m);
                for (int i = 0; i < text.length(); i++) {
                    int letter = below(400) == 0 ? about(255) : text.charAt(i);
                    due(run, calls, named("feed", letter), x.feed(letter), m.feed(letter));
                }
                due(run, calls, "quarter() of " + text, x.quarter(), m.quarter());
                break;
            }
            case 9: {
                int v = about(99);
                due(run, calls, named("row", v), x.row(v), m.row(v));
                break;
            }
            case 10: due(run, calls, named("judge", a), x.judge(a), m.judge(a)); break;
            default: due(run, calls, "clear()", x.clear(), m.clear());
        }
    }

    /** A ROW that came about by somebody a little other than he is. */
    private static void tellRow(int run, List<String> calls, PrayerMatsFace x, Model m, int a, int b) {
        due(run, calls, "clear()", x.clear(), m.clear());
        World v = m.w.copy();
        switch (below(4)) {
            case 0: v.kind[a] = below(6); break;
            case 1: v.figure[a] = below(10); break;
            case 2: v.hours[a] = below(32); break;
            default:
        }
        int numbers = below(14);
        for (int n = 0; n < numbers; n++) {
            int q = v.after(n).quarrel[a][b];
            due(run, calls, named("row", q), x.row(q), m.row(q));
        }
    }

    private static void tellQuarrels(int run, List<String> calls, PrayerMatsFace x, Model m, int a) {
        due(run, calls, "clear()", x.clear(), m.clear());
        int numbers = below(m.w.size() + 2);
        for (int i = 0; i < numbers; i++) {
            int q = below(12) == 0 || i >= m.w.size() ? below(100) : m.w.quarrel[a][i];
            due(run, calls, named("row", q), x.row(q), m.row(q));
        }
        due(run, calls, named("judge", a), x.judge(a), m.judge(a));
    }

    private static void askOfTwo(int run, List<String> calls, PrayerMatsFace x, Model m, int which) {
        int a = somebody(m);
        int b = another(m, a);
        if (m.w.has(a) && m.w.mate[a] != -9 && below(3) > 0) b = m.w.mate[a];
        int n = about(99);
        switch (which) {
            case 0: {
                int what = about(1);
                due(run, calls, named("between", a, b, what), x.between(a, b, what), m.between(a, b, what));
                break;
            }
            case 1: due(run, calls, named("behind", a, b, n), x.behind(a, b, n), m.behind(a, b, n)); break;
            case 2: due(run, calls, named("mended", a, b), x.mended(a, b), m.mended(a, b)); break;
            case 3: due(run, calls, named("turn", a, b), x.turn(a, b), m.turn(a, b)); break;
            case 4: due(run, calls, named("soonest", a, b), x.soonest(a, b), m.soonest(a, b)); break;
            case 5: {
                if (m.w.two(a, b)) tellRow(run, calls, x, m, a, b);
                int what = about(3);
                due(run, calls, named("who", a, b, what), x.who(a, b, what), m.who(a, b, what));
                break;
            }
            case 6: due(run, calls, named("ways", a, b), x.ways(a, b), m.ways(a, b)); break;
            default: {
                int v = about(99), days = about(below(4) == 0 ? 8 : 5), t = 2 + about(18), part = about(1);
                due(run, calls, named("away", a, b, v, days, t, part),
                    x.away(a, b, v, days, t, part), m.away(a, b, v, days, t, part));
            }
        }
    }

    private static void askOfOne(int run, List<String> calls, PrayerMatsFace x, Model m, int which) {
        int a = somebody(m);
        int n = about(99);
        int what = about(1);
        switch (which) {
            case 0: what = about(6); due(run, calls, named("personOf", a, what), x.personOf(a, what), m.personOf(a, what)); break;
            case 1: a = below(3) == 0 ? -1 : a; due(run, calls, named("pairings", a), x.pairings(a), m.pairings(a)); break;
            case 2:
                a = below(3) == 0 ? -1 : a;
                n = below(3) == 0 ? n : about(20);
                due(run, calls, named("bestPairing", n, a), x.bestPairing(n, a), m.bestPairing(n, a));
                break;
            case 3: due(run, calls, named("mateFor", a, what), x.mateFor(a, what), m.mateFor(a, what)); break;
            case 4: due(run, calls, named("hoursFor", a, what), x.hoursFor(a, what), m.hoursFor(a, what)); break;
            case 5: due(run, calls, named("glad", a), x.glad(a), m.glad(a)); break;
            case 6: due(run, calls, named("chain", a), x.chain(a), m.chain(a)); break;
            case 7: due(run, calls, named("enemy", a), x.enemy(a), m.enemy(a)); break;
            case 8: {
                int hour = about(4);
                n = below(2) == 0 ? n : about(9);
                due(run, calls, named("helps", a, hour, n), x.helps(a, hour, n), m.helps(a, hour, n));
                break;
            }
            default: if (m.w.has(a)) tellQuarrels(run, calls, x, m, a);
        }
    }

    private static void askOfAll(int run, List<String> calls, PrayerMatsFace x, Model m, int which) {
        int what = about(1);
        switch (which) {
            case 0: {
                int n = about(99);
                what = about(2);
                due(run, calls, named("all", n, what), x.all(n, what), m.all(n, what));
                break;
            }
            case 1: due(run, calls, "never()", x.never(), m.never()); break;
            case 2: what = about(2); due(run, calls, named("leaves", what), x.leaves(what), m.leaves(what)); break;
            case 3: due(run, calls, "swap()", x.swap(), m.swap()); break;
            case 4: due(run, calls, named("fullest", what), x.fullest(what), m.fullest(what)); break;
            case 5: due(run, calls, "charmer()", x.charmer(), m.charmer()); break;
            case 6: due(run, calls, "friends()", x.friends(), m.friends()); break;
            case 7: due(run, calls, "lonely()", x.lonely(), m.lonely()); break;
            case 8: due(run, calls, "spread()", x.spread(), m.spread()); break;
            case 9: due(run, calls, named("mean", what), x.mean(what), m.mean(what)); break;
            case 10: due(run, calls, "peace()", x.peace(), m.peace()); break;
            case 11: due(run, calls, "doubled()", x.doubled(), m.doubled()); break;
            case 12: {
                int n = below(10) == 0 ? about(20) : about(3);
                int z = below(5) == 0 ? Integer.MIN_VALUE + below(5) : below(Integer.MAX_VALUE) - (1 << 30);
                due(run, calls, named("lots", n, z, what), x.lots(n, z, what), m.lots(n, z, what));
                break;
            }
            default:
        }
        for (what = -1; what <= 17 && below(6) == 0; what++) {
            due(run, calls, named("count", what), x.count(what), m.count(what));
        }
    }

    private static void run(int run) {
        PrayerMatsFace x = new PrayerMatsFace();
        Model m = new Model();
        List<String> calls = new ArrayList<>();
        int people = below(8);
        for (int i = 0; i < people; i++) changing(run, calls, x, m, 0);
        for (int i = 0; i < people; i++) changing(run, calls, x, m, 2 + below(2));
        while (calls.size() < CALLS) {
            switch (below(5)) {
                case 0: changing(run, calls, x, m, below(30) == 0 ? 0 : 1 + below(11)); break;
                case 1: changing(run, calls, x, m, 1 + below(5)); break;
                case 2: askOfTwo(run, calls, x, m, below(8)); break;
                case 3: askOfOne(run, calls, x, m, below(10)); break;
                default: askOfAll(run, calls, x, m, below(14));
            }
        }
        for (int what = -1; what <= 17; what++) {
            due(run, calls, named("count", what), x.count(what), m.count(what));
        }
    }

    public static void main(String[] args) {
        for (int run = 0; run < RUNS; run++) run(run);
        System.out.println(wrong == 0 ? "all answers are as due" : wrong + " answers are not as due");
        if (wrong != 0) System.exit(1);
    }
}
