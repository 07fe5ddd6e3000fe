import java.math.BigInteger;
import java.util.ArrayDeque;
import java.util.ArrayList;
import java.util.Arrays;
import java.util.List;
import java.util.regex.Matcher;
import java.util.regex.Pattern;

/**
 * The document once more, in other ways than the class's own, for OracleTests: parsing by a pattern, flakes one by
 * one along free paths, orders of clouds one by one, each way in which winds fail, rows of single puffs.
 */
final class PlainSnow {
    private static final Pattern PASS = Pattern.compile("P(W[0-2]|C[0-5][1-9][0-3]|S[0-5][1-9][1-9][0-3])*");

    private static final class Sky {
        int[] yard = {};
        int[] flakes = {};
        int[] filled = {};
        boolean[] torn = {};
        int umbrellas = 0;
        int day = 0;

        Sky copy() {
            Sky s = new Sky();
            s.yard = yard.clone();
            s.flakes = flakes.clone();
            s.filled = filled.clone();
            s.torn = torn.clone();
            s.umbrellas = umbrellas;
            s.day = day;
            return s;
        }
    }

    private final StringBuilder text = new StringBuilder();
    private final List<Integer> winds = new ArrayList<>();
    private final List<int[]> clouds = new ArrayList<>();
    private final List<int[]> papers = new ArrayList<>();
    private final List<int[]> seen = new ArrayList<>();
    private final ArrayDeque<Sky> acts = new ArrayDeque<>();
    private final Sky[] kept = new Sky[2];
    private Sky now = new Sky();
    private long lot = 0;

    int write(int letter) {
        if (letter < 0 || letter > 255) {
            return -2;
        }
        if (text.length() == 52) {
            return -4;
        }
        text.append((char) letter);
        return text.length();
    }

    int wipe() {
        int n = text.length();
        text.setLength(0);
        return n;
    }

    private static long many(String s, char head) {
        return s.chars().filter(c -> c == head).count();
    }

    private static boolean canBecomePass(String s) {
        Matcher m = PASS.matcher(s);
        boolean open = m.matches() || m.hitEnd();
        return open && many(s, 'W') <= 4 && many(s, 'C') <= 4 && many(s, 'S') <= 5;
    }

    int fault() {
        String s = text.toString();
        for (int n = 1; n <= s.length(); n++) {
            if (!canBecomePass(s.substring(0, n))) {
                return n - 1;
            }
        }
        return PASS.matcher(s).matches() ? -9 : s.length();
    }

    int pass() {
        if (fault() != -9) {
            return -3;
        }
        winds.clear();
        clouds.clear();
        papers.clear();
        Matcher m = Pattern.compile("[WCS][0-9]+").matcher(text);
        while (m.find()) {
            int[] figures = m.group().substring(1).chars().map(c -> c - '0').toArray();
            switch (m.group().charAt(0)) {
                case 'W' -> winds.add(figures[0]);
                case 'C' -> clouds.add(figures);
                default -> papers.add(figures);
            }
        }
        now = new Sky();
        now.yard = clouds.stream().mapToInt(c -> c[0]).toArray();
        now.flakes = clouds.stream().mapToInt(c -> c[1]).toArray();
        now.filled = new int[papers.size()];
        now.torn = new boolean[papers.size()];
        acts.clear();
        Arrays.fill(kept, null);
        return 100 * winds.size() + 10 * clouds.size() + papers.size();
    }

    private boolean noCloud(int c) {
        return c < 0 || c >= clouds.size();
    }

    private boolean noPaper(int p) {
        return p < 0 || p >= papers.size();
    }

    private int windOf(int day) {
        return winds.isEmpty() ? 0 : winds.get(day % winds.size());
    }

    private int next(int kind, int yard, int day) {
        int at = yard;
        int steps = new int[] {1, 1, 0, 2}[kind];
        for (int i = 0; i < steps; i++) {
            at = switch (windOf(day)) {
                case 1 -> at == 5 ? 0 : at + 1;
                case 2 -> at == 0 ? 5 : at - 1;
                default -> at;
            };
        }
        return at;
    }

    private int owed(Sky s, int p) {
        int[] paper = papers.get(p);
        if (s.torn[p] || paper[1] < s.day) {
            return 0;
        }
        int all = paper[2];
        if (paper[3] == 3) {
            all = all == 1 ? 1 : all / 2;
        }
        return all - s.filled[p];
    }

    private int owedInAll(Sky s) {
        int sum = 0;
        for (int p = 0; p < papers.size(); p++) {
            sum += owed(s, p);
        }
        return sum;
    }

    private boolean sleet(int c) {
        return clouds.get(c)[2] == 1;
    }

    private int has(Sky s, int c) {
        return sleet(c) ? s.flakes[c] / 2 : s.flakes[c];
    }

    private boolean canFall(Sky s, int c, int p) {
        int kind = papers.get(p)[3];
        return s.yard[c] == papers.get(p)[0] && owed(s, p) > 0 && s.flakes[c] >= (sleet(c) ? 2 : 1)
            && !(kind == 1 && sleet(c)) && !(kind == 2 && windOf(s.day) != 0);
    }

    private boolean canServe(Sky s, int c, int p) {
        int kind = papers.get(p)[3];
        if (owed(s, p) == 0 || has(s, c) == 0 || kind == 1 && sleet(c)) {
            return false;
        }
        int at = s.yard[c];
        for (int d = s.day; d <= papers.get(p)[1]; d++) {
            if (at == papers.get(p)[0] && (kind != 2 || windOf(d) == 0)) {
                return true;
            }
            at = next(clouds.get(c)[2], at, d);
        }
        return false;
    }

    private int passDay(Sky s) {
        int more = 0;
        for (int p = 0; p < papers.size(); p++) {
            if (papers.get(p)[1] == s.day) {
                more += owed(s, p);
            }
        }
        for (int c = 0; c < clouds.size(); c++) {
            s.yard[c] = next(clouds.get(c)[2], s.yard[c], s.day);
        }
        s.day++;
        s.umbrellas += more;
        return more;
    }

    private void letFall(Sky s, int c, int p) {
        s.flakes[c] -= sleet(c) ? 2 : 1;
        s.filled[p]++;
    }

    private static void push(Sky s, int c, boolean on) {
        s.yard[c] = (s.yard[c] + (on ? 1 : 5)) % 6;
    }

    private static void rip(Sky s, int p) {
        s.torn[p] = true;
        s.filled[p] = 0;
    }

    int cloud(int c, int what) {
        if (noCloud(c)) {
            return -1;
        }
        int bits = 0;
        for (int p = 0; p < papers.size(); p++) {
            if (what == 4 && canFall(now, c, p) || what == 5 && canServe(now, c, p)) {
                bits |= 1 << p;
            }
        }
        return switch (what) {
            case 0 -> now.yard[c];
            case 1 -> now.flakes[c];
            case 2 -> clouds.get(c)[2];
            case 3 -> has(now, c);
            case 4, 5 -> bits;
            default -> -2;
        };
    }

    int paper(int p, int what) {
        if (noPaper(p)) {
            return -1;
        }
        return switch (what) {
            case 0, 1 -> papers.get(p)[what];
            case 2 -> papers.get(p)[3];
            case 3 -> now.filled[p];
            case 4 -> owed(now, p);
            case 5 -> now.torn[p] ? 1 : 0;
            default -> -2;
        };
    }

    private void act() {
        acts.addLast(now.copy());
        if (acts.size() > 14) {
            acts.removeFirst();
        }
    }

    int day() {
        act();
        return passDay(now);
    }

    int fall(int c, int p) {
        if (noCloud(c) || noPaper(p)) {
            return -1;
        }
        if (!canFall(now, c, p)) {
            return -3;
        }
        act();
        letFall(now, c, p);
        return owed(now, p);
    }

    int puff(int c, boolean on) {
        if (noCloud(c)) {
            return -1;
        }
        act();
        push(now, c, on);
        return now.yard[c];
    }

    int tear(int p) {
        if (noPaper(p)) {
            return -1;
        }
        if (now.torn[p]) {
            return -3;
        }
        int was = owed(now, p);
        act();
        rip(now, p);
        return was;
    }

    int undo() {
        if (acts.isEmpty()) {
            return -3;
        }
        now = acts.removeLast();
        return acts.size();
    }

    private Sky ahead(int n) {
        Sky s = now.copy();
        for (int i = 0; i < n; i++) {
            passDay(s);
        }
        return s;
    }

    int where(int c, int n) {
        if (noCloud(c)) {
            return -1;
        }
        return n < 0 || n > 20 ? -2 : ahead(n).yard[c];
    }

    int umbrellas(int n) {
        return n < 0 || n > 20 ? -2 : ahead(n).umbrellas;
    }

    /** Flakes one by one, each along a free path. */
    private int most(Sky s, boolean[] there) {
        int n = clouds.size();
        int m = papers.size();
        int[][] gives = new int[n][m];
        int[] taken = new int[m];
        boolean[][] can = new boolean[n][m];
        for (int c = 0; c < n; c++) {
            for (int p = 0; p < m; p++) {
                can[c][p] = there[c] && canServe(s, c, p);
            }
        }
        int sum = 0;
        for (int c = 0; c < n; c++) {
            for (int flake = 0; flake < has(s, c); flake++) {
                if (there[c] && place(s, c, can, gives, taken, new boolean[n])) {
                    sum++;
                }
            }
        }
        return sum;
    }

    private boolean place(Sky s, int c, boolean[][] can, int[][] gives, int[] taken, boolean[] tried) {
        if (tried[c]) {
            return false;
        }
        tried[c] = true;
        for (int p = 0; p < papers.size(); p++) {
            if (!can[c][p]) {
                continue;
            }
            if (taken[p] < owed(s, p)) {
                taken[p]++;
                gives[c][p]++;
                return true;
            }
            for (int other = 0; other < clouds.size(); other++) {
                if (gives[other][p] > 0 && place(s, other, can, gives, taken, tried)) {
                    gives[other][p]--;
                    gives[c][p]++;
                    return true;
                }
            }
        }
        return false;
    }

    private boolean[] all() {
        boolean[] there = new boolean[clouds.size()];
        Arrays.fill(there, true);
        return there;
    }

    int most() {
        return most(now, all());
    }

    int lacks(int p) {
        if (noPaper(p)) {
            return -1;
        }
        int left = owed(now, p);
        for (int c = 0; c < clouds.size(); c++) {
            for (int flake = 0; flake < has(now, c) && left > 0 && canServe(now, c, p); flake++) {
                left--;
            }
        }
        return left;
    }

    int puffs() {
        for (int n = 0; n <= 3; n++) {
            if (fillsAll(now.copy(), n)) {
                return n;
            }
        }
        return -9;
    }

    private boolean fillsAll(Sky s, int puffs) {
        if (puffs == 0) {
            return most(s, all()) == owedInAll(s);
        }
        for (int c = 0; c < clouds.size(); c++) {
            for (boolean on : new boolean[] {true, false}) {
                Sky t = s.copy();
                push(t, c, on);
                if (fillsAll(t, puffs - 1)) {
                    return true;
                }
            }
        }
        return false;
    }

    int judge(int n, long row) {
        if (n < 1 || n > 4 || row < 0) {
            return -2;
        }
        String figures = BigInteger.valueOf(row).toString();
        if (figures.length() > 3 * n) {
            return -2;
        }
        figures = "0".repeat(3 * n - figures.length()) + figures;
        Sky s = now.copy();
        for (int i = 0; i < n; i++) {
            if (!judged(s, figures.substring(3 * i, 3 * i + 3))) {
                return i;
            }
        }
        return -9;
    }

    private boolean judged(Sky s, String doing) {
        int b = doing.charAt(1) - '0';
        int c = doing.charAt(2) - '0';
        if (doing.equals("000")) {
            passDay(s);
            return true;
        }
        switch (doing.charAt(0)) {
            case '1':
                if (noCloud(b) || noPaper(c) || !canFall(s, b, c)) {
                    return false;
                }
                letFall(s, b, c);
                return true;
            case '2':
                if (noCloud(b) || c > 1) {
                    return false;
                }
                push(s, b, c == 1);
                return true;
            case '3':
                if (b != 0 || noPaper(c) || s.torn[c]) {
                    return false;
                }
                rip(s, c);
                return true;
            case '4':
                return !noPaper(b) && owed(s, b) <= c;
            default:
                return false;
        }
    }

    int see(int yard, int n) {
        if (yard < 0 || yard > 5) {
            return -1;
        }
        if (n < 0 || n > 9) {
            return -2;
        }
        if (seen.size() == 6) {
            return -4;
        }
        seen.add(new int[] {yard, n});
        return seen.size();
    }

    int unsee() {
        int n = seen.size();
        seen.clear();
        return n;
    }

    int began(int kind) {
        if (kind < 0 || kind > 3) {
            return -2;
        }
        int bits = 0;
        for (int y = 0; y < 6; y++) {
            int[] over = new int[10];
            over[0] = y;
            for (int d = 0; d < 9; d++) {
                over[d + 1] = next(kind, over[d], d);
            }
            if (seen.stream().allMatch(s -> over[s[1]] == s[0])) {
                bits |= 1 << y;
            }
        }
        return bits;
    }

    private static long fraction(BigInteger above, BigInteger below, boolean upper) {
        BigInteger gcd = above.gcd(below);
        return (upper ? above : below).divide(gcd).longValueExact();
    }

    int share(int c, boolean upper) {
        if (noCloud(c)) {
            return -1;
        }
        int[] sums = new int[2];
        orders(new ArrayList<>(), c, sums);
        return (int) fraction(BigInteger.valueOf(sums[0]), BigInteger.valueOf(sums[1]), upper);
    }

    private void orders(List<Integer> come, int c, int[] sums) {
        if (come.size() == clouds.size()) {
            boolean[] there = new boolean[clouds.size()];
            int i = 0;
            for (; come.get(i) != c; i++) {
                there[come.get(i)] = true;
            }
            int before = most(now, there);
            there[c] = true;
            sums[0] += most(now, there) - before;
            sums[1]++;
            return;
        }
        for (int k = 0; k < clouds.size(); k++) {
            if (!come.contains(k)) {
                come.add(k);
                orders(come, c, sums);
                come.remove(come.size() - 1);
            }
        }
    }

    private int worth(int c, int choice, int rival, int rivalChoice) {
        Sky s = now.copy();
        if (choice < 2) {
            push(s, c, choice == 1);
        }
        if (rivalChoice < 2) {
            push(s, rival, rivalChoice == 1);
        }
        int sum = 0;
        for (int p = 0; p < papers.size(); p++) {
            sum += canServe(s, c, p) ? owed(s, p) : 0;
        }
        return Math.min(sum, has(s, c)) + (s.yard[c] == s.yard[rival] ? 0 : 2) - (choice < 2 ? 1 : 0);
    }

    int rests(int one, int other, int what) {
        if (noCloud(one) || noCloud(other)) {
            return -1;
        }
        if (one == other || what < 0 || what > 1) {
            return -2;
        }
        List<Integer> pairs = new ArrayList<>();
        for (int pair = 0; pair < 9; pair++) {
            int a = pair / 3;
            int b = pair % 3;
            boolean rest = true;
            for (int k = 0; k < 3; k++) {
                rest &= worth(one, k, other, b) <= worth(one, a, other, b);
                rest &= worth(other, k, one, a) <= worth(other, b, one, a);
            }
            if (rest) {
                pairs.add(10 * a + b);
            }
        }
        return what == 0 ? pairs.size() : pairs.isEmpty() ? -9 : pairs.get(0);
    }

    int fails(int c, int yard, int n, int x, boolean upper) {
        if (noCloud(c) || yard < 0 || yard > 5) {
            return -1;
        }
        if (n < 1 || n > 6 || x < 0 || x > 10) {
            return -2;
        }
        long sum = 0;
        for (int failing = 0; failing < 1 << n; failing++) {
            int at = now.yard[c];
            long ways = 1;
            for (int i = 0; i < n; i++) {
                boolean fails = (failing >> i & 1) == 1;
                ways *= fails ? x : 10 - x;
                at = fails ? at : next(clouds.get(c)[2], at, now.day + i);
            }
            sum += at == yard ? ways : 0;
        }
        return (int) fraction(BigInteger.valueOf(sum), BigInteger.TEN.pow(n), upper);
    }

    long seed(long v) {
        long was = lot;
        lot = v;
        return was;
    }

    int seasons(int m) {
        if (m < 1 || m > 30) {
            return -2;
        }
        Sky s = now.copy();
        int sum = 0;
        for (int i = 0; i < m; i++) {
            BigInteger x = BigInteger.valueOf(lot).multiply(new BigInteger("6364136223846793005"))
                .add(new BigInteger("1442695040888963407")).mod(BigInteger.TWO.pow(64));
            lot = x.longValue();
            int drawn = x.shiftRight(33).mod(BigInteger.valueOf(28)).intValue();
            if (drawn > 19) {
                passDay(s);
            } else if (!noCloud(drawn / 5) && !noPaper(drawn % 5) && canFall(s, drawn / 5, drawn % 5)) {
                letFall(s, drawn / 5, drawn % 5);
            }
            sum += Arrays.stream(s.filled).sum() + s.umbrellas;
        }
        return sum;
    }

    int keep(int slot) {
        if (slot < 0 || slot > 1) {
            return -1;
        }
        kept[slot] = now.copy();
        return now.day;
    }

    int again(int slot) {
        if (slot < 0 || slot > 1) {
            return -1;
        }
        if (kept[slot] == null) {
            return -3;
        }
        now = kept[slot].copy();
        acts.clear();
        return now.day;
    }

    int count(int what) {
        int torn = 0;
        for (int p = 0; p < papers.size(); p++) {
            torn |= now.torn[p] ? 1 << p : 0;
        }
        return switch (what) {
            case 0 -> text.length();
            case 1 -> winds.size();
            case 2 -> clouds.size();
            case 3 -> papers.size();
            case 4 -> now.day;
            case 5 -> windOf(now.day);
            case 6 -> owedInAll(now);
            case 7 -> Arrays.stream(now.filled).sum();
            case 8 -> now.umbrellas;
            case 9 -> torn;
            case 10 -> acts.size();
            case 11 -> seen.size();
            default -> -2;
        };
    }
}
