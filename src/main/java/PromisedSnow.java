/**
 * Snow that was promised: a pass told as a text, clouds that the winds carry around a ring of yards, papers that
 * are owed flakes by a day, and what can still be filled. The promises' numbers are those of the document.
 */
public final class PromisedSnow {
    public static final int UNKNOWN = -1, OUTSIDE = -2, STATE = -3, FULL = -4, NONE = -9;

    private static final int YARDS = 6;
    private static final int MAX_LETTERS = 52, MAX_LETTER = 255;
    private static final int MAX_WINDS = 4, MAX_CLOUDS = 4, MAX_PAPERS = 5;
    private static final int LAST_DUE = 9, MAX_AHEAD = 20;
    private static final int MAX_ACTS = 14, MAX_SEEN = 6, MAX_BEHIND = 9, SLOTS = 2;
    private static final int MAX_PUFFS = 3, MAX_DOINGS = 4, MAX_FAILING = 6, TENTHS = 10, MAX_SEASONS = 30;

    private static final int WIND_STILL = 0, WIND_ON = 1, WIND_BACK = 2;
    private static final int CLOUD_SLEET = 1, CLOUD_STILL = 2, CLOUD_SWIFT = 3, CLOUD_KINDS = 4;
    private static final int PAPER_GILT = 1, PAPER_SOFT = 2, PAPER_HALVED = 3;

    private static final int CHOICES = 3, CHOICE_ON = 1, CHOICE_NOT = 2;

    private static final long SEED_FACTOR = 6364136223846793005L, SEED_TERM = 1442695040888963407L;
    private static final int SEASON_LOTS = 28, SEASON_FALLS = 20;

    private final Script script;
    private final Pass told;
    private final Sky sky;
    // Told doings and seasons are played here, so that the sky itself stays as it is.
    private final Sky trial;
    private final Acts acts;
    private final Sightings sightings;
    private final Service service;
    private final Chances chances;
    private final Rivals rivals;
    private final int[][] slots;
    private final boolean[] kept;
    private final int[] spare;
    private final int[] doings;
    private long lot;

    /** Promise 1: a clear sky. All rows are made here and used again, so that no call makes an object. */
    public PromisedSnow() {
        script = new Script();
        told = new Pass();
        sky = new Sky(told);
        trial = new Sky(told);
        acts = new Acts();
        sightings = new Sightings();
        service = new Service();
        chances = new Chances();
        rivals = new Rivals();
        slots = new int[SLOTS][Sky.SIZE];
        kept = new boolean[SLOTS];
        spare = new int[Sky.SIZE];
        doings = new int[MAX_DOINGS];
        lot = 0L;
    }

    // ---- the pass

    /** Promise 2. */
    public int write(int letter) {
        if (letter < 0 || letter > MAX_LETTER) {
            return OUTSIDE;
        }
        return script.append(letter) ? script.length : FULL;
    }

    /** Promise 3. */
    public int wipe() {
        int were = script.length;
        script.length = 0;
        return were;
    }

    /** Promise 4. */
    public int fault() {
        return script.firstFault();
    }

    /** Promise 5. */
    public int pass() {
        if (script.firstFault() != NONE) {
            return STATE;
        }
        told.read(script);
        sky.begin();
        acts.forget();
        for (int slot = 0; slot < SLOTS; slot++) {
            kept[slot] = false;
        }
        return 100 * told.winds + 10 * told.clouds + told.papers;
    }

    /** Promise 6. */
    public int cloud(int cloud, int what) {
        if (!told.hasCloud(cloud)) {
            return UNKNOWN;
        }
        switch (what) {
            case 0:
                return sky.yard[cloud];
            case 1:
                return sky.flakes[cloud];
            case 2:
                return told.cloudKind[cloud];
            case 3:
                return sky.has(cloud);
            case 4:
                return sky.droppable(cloud);
            case 5:
                return sky.servable(cloud, sky.yard[cloud]);
            default:
                return OUTSIDE;
        }
    }

    /** Promise 7. */
    public int paper(int paper, int what) {
        if (!told.hasPaper(paper)) {
            return UNKNOWN;
        }
        switch (what) {
            case 0:
                return told.paperYard[paper];
            case 1:
                return told.due[paper];
            case 2:
                return told.paperKind[paper];
            case 3:
                return sky.filled[paper];
            case 4:
                return sky.owed(paper);
            case 5:
                return sky.isTorn(paper) ? 1 : 0;
            default:
                return OUTSIDE;
        }
    }

    // ---- acts

    /** Promise 8. */
    public int day() {
        acts.remember(sky);
        return sky.goDay();
    }

    /** Promise 9. */
    public int fall(int cloud, int paper) {
        if (!told.hasCloud(cloud) || !told.hasPaper(paper)) {
            return UNKNOWN;
        }
        if (!sky.canDrop(cloud, paper)) {
            return STATE;
        }
        acts.remember(sky);
        sky.drop(cloud, paper);
        return sky.owed(paper);
    }

    /** Promise 10. */
    public int puff(int cloud, boolean on) {
        if (!told.hasCloud(cloud)) {
            return UNKNOWN;
        }
        acts.remember(sky);
        sky.push(cloud, on);
        return sky.yard[cloud];
    }

    /** Promise 11. */
    public int tear(int paper) {
        if (!told.hasPaper(paper)) {
            return UNKNOWN;
        }
        if (sky.isTorn(paper)) {
            return STATE;
        }
        int was = sky.owed(paper);
        acts.remember(sky);
        sky.rip(paper);
        return was;
    }

    /** Promise 12. */
    public int undo() {
        return acts.takeBack(sky) ? acts.size : STATE;
    }

    // ---- days to come, fillings

    /** Promise 13. */
    public int where(int cloud, int n) {
        if (!told.hasCloud(cloud)) {
            return UNKNOWN;
        }
        if (n < 0 || n > MAX_AHEAD) {
            return OUTSIDE;
        }
        return told.carried(told.cloudKind[cloud], sky.yard[cloud], sky.today, n);
    }

    /** Promise 14. */
    public int umbrellas(int n) {
        if (n < 0 || n > MAX_AHEAD) {
            return OUTSIDE;
        }
        return sky.umbrellasBy(sky.today + n);
    }

    /** Promise 15. */
    public int most() {
        service.look(sky, told);
        return service.fillable(service.everyone());
    }

    /** Promise 16. */
    public int lacks(int paper) {
        if (!told.hasPaper(paper)) {
            return UNKNOWN;
        }
        service.look(sky, told);
        return service.shortOf(paper);
    }

    /** Promise 17. */
    public int puffs() {
        service.look(sky, told);
        service.lookAround(sky);
        return service.fewestPuffs(sky);
    }

    /** Promise 18. */
    public int judge(int n, long row) {
        if (n < 1 || n > MAX_DOINGS || row < 0) {
            return OUTSIDE;
        }
        long left = row;
        for (int i = n - 1; i >= 0; i--) {
            doings[i] = (int) (left % 1000);
            left /= 1000;
        }
        if (left != 0) {
            return OUTSIDE;
        }
        copyToTrial();
        for (int i = 0; i < n; i++) {
            if (!trial.does(doings[i])) {
                return i;
            }
        }
        return NONE;
    }

    // ---- where it began

    /** Promise 19. */
    public int see(int yard, int n) {
        if (yard < 0 || yard >= YARDS) {
            return UNKNOWN;
        }
        if (n < 0 || n > MAX_BEHIND) {
            return OUTSIDE;
        }
        return sightings.add(yard, n) ? sightings.size : FULL;
    }

    /** Promise 20. */
    public int unsee() {
        int were = sightings.size;
        sightings.size = 0;
        return were;
    }

    /** Promise 21. */
    public int began(int kind) {
        if (kind < 0 || kind >= CLOUD_KINDS) {
            return OUTSIDE;
        }
        return sightings.beginnings(kind, told);
    }

    // ---- shares, rests, chances

    /** Promise 22. */
    public int share(int cloud, boolean upper) {
        if (!told.hasCloud(cloud)) {
            return UNKNOWN;
        }
        service.look(sky, told);
        return Numbers.fractionPart(service.gainInOrders(cloud), Numbers.factorial(told.clouds), upper);
    }

    /** Promise 23. */
    public int rests(int one, int other, int what) {
        if (!told.hasCloud(one) || !told.hasCloud(other)) {
            return UNKNOWN;
        }
        if (one == other || what < 0 || what > 1) {
            return OUTSIDE;
        }
        Rivals.weigh(sky, one, rivals.oneAt, rivals.oneAlone);
        Rivals.weigh(sky, other, rivals.otherAt, rivals.otherAlone);
        return what == 0 ? rivals.restingPairs() : rivals.firstResting();
    }

    /** Promise 24. */
    public int fails(int cloud, int yard, int n, int x, boolean upper) {
        if (!told.hasCloud(cloud) || yard < 0 || yard >= YARDS) {
            return UNKNOWN;
        }
        if (n < 1 || n > MAX_FAILING || x < 0 || x > TENTHS) {
            return OUTSIDE;
        }
        chances.startOver(sky.yard[cloud]);
        for (int i = 0; i < n; i++) {
            chances.goDay(told.drift(told.cloudKind[cloud], sky.today + i), x);
        }
        return Numbers.fractionPart(chances.weight[yard], chances.whole, upper);
    }

    /** Promise 25. */
    public long seed(long v) {
        long was = lot;
        lot = v;
        return was;
    }

    /** Promise 26. */
    public int seasons(int m) {
        if (m < 1 || m > MAX_SEASONS) {
            return OUTSIDE;
        }
        copyToTrial();
        int together = 0;
        for (int i = 0; i < m; i++) {
            lot = lot * SEED_FACTOR + SEED_TERM;
            playSeason((int) ((lot >>> 33) % SEASON_LOTS));
            together += trial.filledInAll() + trial.umbrellas;
        }
        return together;
    }

    // ---- slots

    /** Promise 27. */
    public int keep(int slot) {
        if (slot < 0 || slot >= SLOTS) {
            return UNKNOWN;
        }
        sky.store(slots[slot]);
        kept[slot] = true;
        return sky.today;
    }

    /** Promise 28. */
    public int again(int slot) {
        if (slot < 0 || slot >= SLOTS) {
            return UNKNOWN;
        }
        if (!kept[slot]) {
            return STATE;
        }
        sky.load(slots[slot]);
        acts.forget();
        return sky.today;
    }

    /** Promise 29. */
    public int count(int what) {
        switch (what) {
            case 0:
                return script.length;
            case 1:
                return told.winds;
            case 2:
                return told.clouds;
            case 3:
                return told.papers;
            case 4:
                return sky.today;
            case 5:
                return told.windOn(sky.today);
            case 6:
                return sky.owedInAll();
            case 7:
                return sky.filledInAll();
            case 8:
                return sky.umbrellas;
            case 9:
                return sky.torn;
            case 10:
                return acts.size;
            case 11:
                return sightings.size;
            default:
                return OUTSIDE;
        }
    }

    private void copyToTrial() {
        sky.store(spare);
        trial.load(spare);
    }

    private void playSeason(int drawn) {
        if (drawn >= SEASON_FALLS) {
            trial.goDay();
        } else {
            trial.tryDrop(drawn / 5, drawn % 5);
        }
    }

    /** What is worked out from numbers alone. */
    private static final class Numbers {
        static int ring(int yard) {
            return Math.floorMod(yard, YARDS);
        }

        static int factorial(int n) {
            int product = 1;
            for (int i = 2; i <= n; i++) {
                product *= i;
            }
            return product;
        }

        /** The upper or the lower number of a fraction in least terms. */
        static int fractionPart(int above, int below, boolean upper) {
            int common = commonDivisor(above, below);
            if (common == 0) {
                return upper ? 0 : 1;
            }
            return upper ? above / common : below / common;
        }

        static int commonDivisor(int one, int other) {
            int a = one;
            int b = other;
            // Euclid needs fewer than 50 steps for any two ints.
            for (int i = 0; i < 64 && b != 0; i++) {
                int rest = a % b;
                a = b;
                b = rest;
            }
            return a;
        }
    }

    /** THE TEXT, letter by letter. */
    private static final class Script {
        final int[] letters;
        int length;

        Script() {
            letters = new int[MAX_LETTERS];
            length = 0;
        }

        boolean append(int letter) {
            if (length < 0 || length >= letters.length) {
                return false;
            }
            letters[length] = letter;
            length++;
            return true;
        }

        int letterAt(int place) {
            return place >= 0 && place < length && place < letters.length ? letters[place] : 0;
        }

        int figureAt(int place) {
            return letterAt(place) - '0';
        }

        int firstFault() {
            if (letterAt(0) != 'P') {
                return 0;
            }
            int head = 0;
            int at = 0;
            int winds = 0;
            int clouds = 0;
            int papers = 0;
            for (int place = 1; place < length; place++) {
                int letter = letterAt(place);
                if (head != 0) {
                    if (!fits(head, at, letter)) {
                        return place;
                    }
                    at++;
                    head = at < lowest(head).length() ? head : 0;
                    continue;
                }
                winds += letter == 'W' ? 1 : 0;
                clouds += letter == 'C' ? 1 : 0;
                papers += letter == 'S' ? 1 : 0;
                if (lowest(letter).isEmpty() || winds > MAX_WINDS || clouds > MAX_CLOUDS || papers > MAX_PAPERS) {
                    return place;
                }
                head = letter;
                at = 0;
            }
            return head == 0 ? NONE : length;
        }

        static boolean fits(int head, int at, int letter) {
            String low = lowest(head);
            String high = highest(head);
            if (at < 0 || at >= low.length() || at >= high.length()) {
                return false;
            }
            return letter >= low.charAt(at) && letter <= high.charAt(at);
        }

        /** The lowest figures behind a part's first letter; none, if no part begins with it. */
        static String lowest(int head) {
            switch (head) {
                case 'W':
                    return "0";
                case 'C':
                    return "010";
                case 'S':
                    return "0110";
                default:
                    return "";
            }
        }

        static String highest(int head) {
            switch (head) {
                case 'W':
                    return "2";
                case 'C':
                    return "593";
                case 'S':
                    return "5993";
                default:
                    return "";
            }
        }
    }

    /** THE PASS as it was told: what no act changes. */
    private static final class Pass {
        final int[] wind;
        final int[] cloudYard;
        final int[] cloudFlakes;
        final int[] cloudKind;
        final int[] paperYard;
        final int[] due;
        final int[] paperKind;
        // What each paper is owed in all.
        final int[] promised;
        int winds;
        int clouds;
        int papers;

        Pass() {
            wind = new int[MAX_WINDS];
            cloudYard = new int[MAX_CLOUDS];
            cloudFlakes = new int[MAX_CLOUDS];
            cloudKind = new int[MAX_CLOUDS];
            paperYard = new int[MAX_PAPERS];
            due = new int[MAX_PAPERS];
            paperKind = new int[MAX_PAPERS];
            promised = new int[MAX_PAPERS];
            winds = 0;
            clouds = 0;
            papers = 0;
        }

        /** Reads a text without a fault; the figures in it are passed by, as no part begins with one. */
        void read(Script script) {
            winds = 0;
            clouds = 0;
            papers = 0;
            for (int place = 1; place < script.length; place++) {
                int head = script.letterAt(place);
                if (head == 'W') {
                    addWind(script, place);
                } else if (head == 'C') {
                    addCloud(script, place);
                } else if (head == 'S') {
                    addPaper(script, place);
                }
            }
        }

        void addWind(Script script, int place) {
            if (winds >= MAX_WINDS) {
                return;
            }
            wind[winds] = script.figureAt(place + 1);
            winds++;
        }

        void addCloud(Script script, int place) {
            if (clouds >= MAX_CLOUDS) {
                return;
            }
            cloudYard[clouds] = script.figureAt(place + 1);
            cloudFlakes[clouds] = script.figureAt(place + 2);
            cloudKind[clouds] = script.figureAt(place + 3);
            clouds++;
        }

        void addPaper(Script script, int place) {
            if (papers >= MAX_PAPERS) {
                return;
            }
            paperYard[papers] = script.figureAt(place + 1);
            due[papers] = script.figureAt(place + 2);
            int flakes = script.figureAt(place + 3);
            int kind = script.figureAt(place + 4);
            paperKind[papers] = kind;
            promised[papers] = kind == PAPER_HALVED ? Math.max(1, flakes / 2) : flakes;
            papers++;
        }

        boolean hasCloud(int cloud) {
            return cloud >= 0 && cloud < clouds && cloud < MAX_CLOUDS;
        }

        boolean hasPaper(int paper) {
            return paper >= 0 && paper < papers && paper < MAX_PAPERS;
        }

        int windOn(int day) {
            if (winds <= 0 || winds > MAX_WINDS || day < 0) {
                return WIND_STILL;
            }
            return wind[day % winds];
        }

        /** How many yards on (below 0: back) a cloud of a kind goes on a day. */
        int drift(int kind, int day) {
            int blown = windOn(day);
            int way = blown == WIND_ON ? 1 : blown == WIND_BACK ? -1 : 0;
            int pace = kind == CLOUD_STILL ? 0 : kind == CLOUD_SWIFT ? 2 : 1;
            return way * pace;
        }

        /** The yard over which a cloud of a kind is, n days after it was over another on a day. */
        int carried(int kind, int from, int day, int n) {
            int at = from;
            for (int i = 0; i < n; i++) {
                at = Numbers.ring(at + drift(kind, day + i));
            }
            return at;
        }
    }

    /** What acts change: where clouds are, flakes, what is filled, torn, umbrellas, the day. */
    private static final class Sky {
        static final int SIZE = 2 * MAX_CLOUDS + MAX_PAPERS + 3;

        final Pass told;
        final int[] yard;
        final int[] flakes;
        final int[] filled;
        int torn;
        int umbrellas;
        int today;

        Sky(Pass pass) {
            told = pass;
            yard = new int[MAX_CLOUDS];
            flakes = new int[MAX_CLOUDS];
            filled = new int[MAX_PAPERS];
            torn = 0;
            umbrellas = 0;
            today = 0;
        }

        void begin() {
            for (int c = 0; c < MAX_CLOUDS; c++) {
                yard[c] = told.cloudYard[c];
                flakes[c] = told.cloudFlakes[c];
            }
            for (int p = 0; p < MAX_PAPERS; p++) {
                filled[p] = 0;
            }
            torn = 0;
            umbrellas = 0;
            today = 0;
        }

        void store(int[] row) {
            if (row == null || row.length < SIZE) {
                return;
            }
            System.arraycopy(yard, 0, row, 0, MAX_CLOUDS);
            System.arraycopy(flakes, 0, row, MAX_CLOUDS, MAX_CLOUDS);
            System.arraycopy(filled, 0, row, 2 * MAX_CLOUDS, MAX_PAPERS);
            row[SIZE - 3] = torn;
            row[SIZE - 2] = umbrellas;
            row[SIZE - 1] = today;
        }

        void load(int[] row) {
            if (row == null || row.length < SIZE) {
                return;
            }
            System.arraycopy(row, 0, yard, 0, MAX_CLOUDS);
            System.arraycopy(row, MAX_CLOUDS, flakes, 0, MAX_CLOUDS);
            System.arraycopy(row, 2 * MAX_CLOUDS, filled, 0, MAX_PAPERS);
            torn = row[SIZE - 3];
            umbrellas = row[SIZE - 2];
            today = row[SIZE - 1];
        }

        boolean isTorn(int paper) {
            return (torn >> paper & 1) != 0;
        }

        int owed(int paper) {
            if (!told.hasPaper(paper) || isTorn(paper) || told.due[paper] < today) {
                return 0;
            }
            return told.promised[paper] - filled[paper];
        }

        int owedInAll() {
            return owedBy((1 << MAX_PAPERS) - 1);
        }

        /** What is owed by a set of papers (bits). */
        int owedBy(int papers) {
            int sum = 0;
            for (int p = 0; p < told.papers; p++) {
                if ((papers >> p & 1) != 0) {
                    sum += owed(p);
                }
            }
            return sum;
        }

        int filledInAll() {
            int sum = 0;
            for (int p = 0; p < MAX_PAPERS; p++) {
                sum += filled[p];
            }
            return sum;
        }

        /** The flakes that a cloud has for papers. */
        int has(int cloud) {
            if (!told.hasCloud(cloud)) {
                return 0;
            }
            return told.cloudKind[cloud] == CLOUD_SLEET ? flakes[cloud] / 2 : flakes[cloud];
        }

        /** Whether a paper would take a flake of a cloud on a day, if the cloud were over its yard. */
        boolean takes(int cloud, int paper, int day) {
            if (has(cloud) < 1 || owed(paper) < 1 || told.due[paper] < day) {
                return false;
            }
            if (told.paperKind[paper] == PAPER_GILT) {
                return told.cloudKind[cloud] != CLOUD_SLEET;
            }
            return told.paperKind[paper] != PAPER_SOFT || told.windOn(day) == WIND_STILL;
        }

        boolean canDrop(int cloud, int paper) {
            if (!told.hasCloud(cloud) || !told.hasPaper(paper)) {
                return false;
            }
            return yard[cloud] == told.paperYard[paper] && takes(cloud, paper, today);
        }

        /** The papers (bits) on which a cloud can let fall now. */
        int droppable(int cloud) {
            int papers = 0;
            for (int p = 0; p < told.papers; p++) {
                if (canDrop(cloud, p)) {
                    papers |= 1 << p;
                }
            }
            return papers;
        }

        /** The papers (bits) that a cloud can serve, if it were over a yard now. */
        int servable(int cloud, int from) {
            if (!told.hasCloud(cloud)) {
                return 0;
            }
            int papers = 0;
            int at = from;
            for (int d = today; d <= LAST_DUE; d++) {
                for (int p = 0; p < told.papers; p++) {
                    if (at == told.paperYard[p] && takes(cloud, p, d)) {
                        papers |= 1 << p;
                    }
                }
                at = Numbers.ring(at + told.drift(told.cloudKind[cloud], d));
            }
            return papers;
        }

        void drop(int cloud, int paper) {
            if (!told.hasCloud(cloud) || !told.hasPaper(paper)) {
                return;
            }
            flakes[cloud] -= told.cloudKind[cloud] == CLOUD_SLEET ? 2 : 1;
            filled[paper]++;
        }

        boolean tryDrop(int cloud, int paper) {
            if (!canDrop(cloud, paper)) {
                return false;
            }
            drop(cloud, paper);
            return true;
        }

        void push(int cloud, boolean on) {
            if (told.hasCloud(cloud)) {
                yard[cloud] = Numbers.ring(yard[cloud] + (on ? 1 : -1));
            }
        }

        void rip(int paper) {
            if (told.hasPaper(paper)) {
                torn |= 1 << paper;
                filled[paper] = 0;
            }
        }

        /** A day goes by: how many umbrellas more. */
        int goDay() {
            int more = umbrellasBy(today + 1) - umbrellas;
            for (int c = 0; c < told.clouds; c++) {
                yard[c] = Numbers.ring(yard[c] + told.drift(told.cloudKind[c], today));
            }
            umbrellas += more;
            today++;
            return more;
        }

        /** How many umbrellas there are on a day to come, if nothing falls. */
        int umbrellasBy(int day) {
            int sum = umbrellas;
            for (int p = 0; p < told.papers; p++) {
                if (told.due[p] < day) {
                    sum += owed(p);
                }
            }
            return sum;
        }

        /** Does what three figures tell, or answers that it can not be (or is not so). */
        boolean does(int figures) {
            int first = figures / 100;
            int second = figures / 10 % 10;
            int third = figures % 10;
            switch (first) {
                case 0:
                    if (figures != 0) {
                        return false;
                    }
                    goDay();
                    return true;
                case 1:
                    return tryDrop(second, third);
                case 2:
                    if (!told.hasCloud(second) || third > 1) {
                        return false;
                    }
                    push(second, third == 1);
                    return true;
                case 3:
                    if (second != 0 || !told.hasPaper(third) || isTorn(third)) {
                        return false;
                    }
                    rip(third);
                    return true;
                case 4:
                    return told.hasPaper(second) && owed(second) <= third;
                default:
                    return false;
            }
        }
    }

    /** THE ROW of ACTS: how the sky was ahead of each, in a ring, so that the first can be forgotten. */
    private static final class Acts {
        final int[][] before;
        int first;
        int size;

        Acts() {
            before = new int[MAX_ACTS][Sky.SIZE];
            first = 0;
            size = 0;
        }

        void remember(Sky sky) {
            if (size >= MAX_ACTS) {
                first = (first + 1) % MAX_ACTS;
                size = MAX_ACTS - 1;
            }
            sky.store(before[(first + size) % MAX_ACTS]);
            size++;
        }

        boolean takeBack(Sky sky) {
            if (size <= 0) {
                return false;
            }
            size--;
            sky.load(before[(first + size) % MAX_ACTS]);
            return true;
        }

        void forget() {
            first = 0;
            size = 0;
        }
    }

    /** What is SEEN of one cloud. */
    private static final class Sightings {
        final int[] yard;
        final int[] behind;
        int size;

        Sightings() {
            yard = new int[MAX_SEEN];
            behind = new int[MAX_SEEN];
            size = 0;
        }

        boolean add(int over, int n) {
            if (size < 0 || size >= MAX_SEEN) {
                return false;
            }
            yard[size] = over;
            behind[size] = n;
            size++;
            return true;
        }

        int beginnings(int kind, Pass told) {
            int yards = 0;
            for (int y = 0; y < YARDS; y++) {
                if (agrees(kind, y, told)) {
                    yards |= 1 << y;
                }
            }
            return yards;
        }

        boolean agrees(int kind, int begun, Pass told) {
            for (int i = 0; i < size && i < MAX_SEEN; i++) {
                if (told.carried(kind, begun, 0, behind[i]) != yard[i]) {
                    return false;
                }
            }
            return true;
        }
    }

    /** Who can serve what: the rows in which MOST and what follows from it are worked out. */
    private static final class Service {
        final int[] has;
        final int[] can;
        final int[] owed;
        final int[][] canFrom;
        int clouds;
        int papers;

        Service() {
            has = new int[MAX_CLOUDS];
            can = new int[MAX_CLOUDS];
            owed = new int[MAX_PAPERS];
            canFrom = new int[MAX_CLOUDS][YARDS];
            clouds = 0;
            papers = 0;
        }

        void look(Sky sky, Pass told) {
            clouds = Math.min(told.clouds, MAX_CLOUDS);
            papers = Math.min(told.papers, MAX_PAPERS);
            for (int c = 0; c < clouds; c++) {
                has[c] = sky.has(c);
                can[c] = sky.servable(c, sky.yard[c]);
            }
            for (int p = 0; p < papers; p++) {
                owed[p] = sky.owed(p);
            }
        }

        void lookAround(Sky sky) {
            for (int c = 0; c < clouds; c++) {
                for (int y = 0; y < YARDS; y++) {
                    canFrom[c][y] = sky.servable(c, y);
                }
            }
        }

        int everyone() {
            return (1 << clouds) - 1;
        }

        int owedBy(int set) {
            int sum = 0;
            for (int p = 0; p < papers; p++) {
                sum += (set >> p & 1) != 0 ? owed[p] : 0;
            }
            return sum;
        }

        /**
         * MOST, if only some clouds (bits) are there. No cut between flakes and papers lets more through than it
         * is wide, and the narrowest one lets just that through: so the least over all cuts is the most.
         */
        int fillable(int present) {
            int least = owedBy((1 << papers) - 1);
            for (int set = 0; set < 1 << clouds; set++) {
                if ((set & ~present) == 0) {
                    least = Math.min(least, cut(set, present));
                }
            }
            return least;
        }

        int cut(int set, int present) {
            int served = 0;
            int sum = 0;
            for (int c = 0; c < clouds; c++) {
                if ((set >> c & 1) != 0) {
                    served |= can[c];
                } else if ((present >> c & 1) != 0) {
                    sum += has[c];
                }
            }
            return sum + owedBy(served);
        }

        int shortOf(int paper) {
            if (paper < 0 || paper >= papers) {
                return 0;
            }
            int flakes = 0;
            for (int c = 0; c < clouds; c++) {
                flakes += (can[c] >> paper & 1) != 0 ? has[c] : 0;
            }
            return Math.max(0, owed[paper] - flakes);
        }

        int fewestPuffs(Sky sky) {
            int all = owedBy((1 << papers) - 1);
            int ways = 1;
            for (int c = 0; c < clouds; c++) {
                ways *= YARDS;
            }
            int fewest = MAX_PUFFS + 1;
            for (int way = 0; way < ways; way++) {
                int cost = place(sky, way);
                if (cost < fewest && fillable(everyone()) == all) {
                    fewest = cost;
                }
            }
            return fewest > MAX_PUFFS ? NONE : fewest;
        }

        /** Puts each cloud over the yard that a way (figures to the base 6) tells: how many puffs that takes. */
        int place(Sky sky, int way) {
            int left = way;
            int cost = 0;
            for (int c = 0; c < clouds; c++) {
                int on = left % YARDS;
                left /= YARDS;
                can[c] = canFrom[c][Numbers.ring(sky.yard[c] + on)];
                cost += Math.min(on, YARDS - on);
            }
            return cost;
        }

        /** By how many MOST is more when a cloud has come, summed over all orders of all clouds. */
        int gainInOrders(int cloud) {
            int sum = 0;
            for (int set = 0; set < 1 << clouds; set++) {
                if ((set >> cloud & 1) == 0) {
                    int ahead = Integer.bitCount(set);
                    int orders = Numbers.factorial(ahead) * Numbers.factorial(clouds - 1 - ahead);
                    sum += orders * (fillable(set | 1 << cloud) - fillable(set));
                }
            }
            return sum;
        }
    }

    /** Two clouds that are each puffed back (0), on (1), or not (2). */
    private static final class Rivals {
        final int[] oneAt;
        final int[] otherAt;
        final int[] oneAlone;
        final int[] otherAlone;

        Rivals() {
            oneAt = new int[CHOICES];
            otherAt = new int[CHOICES];
            oneAlone = new int[CHOICES];
            otherAlone = new int[CHOICES];
        }

        /** What each choice brings a cloud, as far as the other one has no part in it. */
        static void weigh(Sky sky, int cloud, int[] at, int[] alone) {
            if (at == null || alone == null || at.length < CHOICES || alone.length < CHOICES) {
                return;
            }
            for (int choice = 0; choice < CHOICES; choice++) {
                int step = choice == CHOICE_NOT ? 0 : choice == CHOICE_ON ? 1 : -1;
                at[choice] = Numbers.ring(sky.yard[cloud] + step);
                int served = Math.min(sky.has(cloud), sky.owedBy(sky.servable(cloud, at[choice])));
                alone[choice] = choice == CHOICE_NOT ? served : served - 1;
            }
        }

        int apart(int a, int b) {
            return oneAt[a] != otherAt[b] ? 2 : 0;
        }

        boolean rest(int a, int b) {
            int oneNow = oneAlone[a] + apart(a, b);
            int otherNow = otherAlone[b] + apart(a, b);
            for (int choice = 0; choice < CHOICES; choice++) {
                if (oneAlone[choice] + apart(choice, b) > oneNow
                        || otherAlone[choice] + apart(a, choice) > otherNow) {
                    return false;
                }
            }
            return true;
        }

        int restingPairs() {
            int pairs = 0;
            for (int a = 0; a < CHOICES; a++) {
                for (int b = 0; b < CHOICES; b++) {
                    pairs += rest(a, b) ? 1 : 0;
                }
            }
            return pairs;
        }

        int firstResting() {
            for (int a = 0; a < CHOICES; a++) {
                for (int b = 0; b < CHOICES; b++) {
                    if (rest(a, b)) {
                        return 10 * a + b;
                    }
                }
            }
            return NONE;
        }
    }

    /** By how many of a whole a cloud is over each yard, when winds may fail. */
    private static final class Chances {
        final int[] weight;
        final int[] ahead;
        int whole;

        Chances() {
            weight = new int[YARDS];
            ahead = new int[YARDS];
            whole = 1;
        }

        void startOver(int yard) {
            for (int y = 0; y < YARDS; y++) {
                weight[y] = y == yard ? 1 : 0;
            }
            whole = 1;
        }

        void goDay(int drift, int failing) {
            for (int y = 0; y < YARDS; y++) {
                ahead[y] = weight[y] * failing + weight[Numbers.ring(y - drift)] * (TENTHS - failing);
            }
            System.arraycopy(ahead, 0, weight, 0, YARDS);
            whole *= TENTHS;
        }
    }
}
