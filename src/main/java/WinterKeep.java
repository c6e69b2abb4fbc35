import java.util.Arrays;

/** Winter keep, in a decent house; words in capitals are those of the document. */
public final class WinterKeep {
    public static final int NONE = -1;

    private static final int HOME = -1;
    private static final int BURNT = -2;
    private static final int MOST_KEEPS = 6;
    private static final int MOST_PEOPLE = 5;
    private static final int MOST_FIELDS = 4;
    private static final int MOST_CLAUSES = 40;
    private static final int MOST_RULES = 6;
    private static final int MOST_NOTES = 10;
    private static final int MOST_ACTS = 20;
    private static final int MOST_IMAGES = 4;
    private static final int MOST_BYTES = 400;
    private static final int LAST_NIGHT = 999;
    private static final int FAR = 200;
    private static final int NEAR = 60;

    private final Tape tape = new Tape();
    private final RuleReader ruleReader = new RuleReader();
    private final Rule[] rules = new Rule[MOST_RULES];
    private int ruleMany = 0;
    private int inForce = NONE;
    private Dale told = new Dale();
    private final Scene now = new Scene();
    private final Scene run = new Scene();
    private final Nights nights = new Nights();
    private final Placings placings = new Placings();
    private final Benches benches = new Benches();
    private final Notes notes = new Notes();
    private int x = 0;
    private final Image[] images = new Image[MOST_IMAGES];
    private final Scene[] acts = new Scene[MOST_ACTS];
    private int actNext = 0;
    private int actMany = 0;
    private final long[] begins = new long[2 * NEAR + 2];
    private final int[] pays = new int[32];
    private final int[] looks = new int[(MOST_RULES + 1) * MOST_KEEPS];

    public WinterKeep() {
        for (int i = 0; i < MOST_ACTS; i++) {
            acts[i] = new Scene();
        }
        for (int i = 0; i < MOST_IMAGES; i++) {
            images[i] = new Image();
        }
    }

    // ---- the TAPE, the DALE and the RULES

    public int feed(int a, int b, int c, int d, int e) {
        if (tape.length + 20 > MOST_BYTES) {
            return NONE;
        }
        tape.add(a);
        tape.add(b);
        tape.add(c);
        tape.add(d);
        tape.add(e);
        return tape.length;
    }

    public int end(int n) {
        if (n < 0 || n > tape.length) {
            return NONE;
        }
        tape.length = n;
        return n;
    }

    public int dale() {
        Dale next = new Dale();
        boolean isRead = DaleReader.read(tape, next);
        tape.length = 0;
        if (!isRead) {
            return -2 - tape.fault;
        }
        told = next;
        now.begin(next);
        notes.many = 0;
        actMany = 0;
        return next.keeps;
    }

    public int rule() {
        if (ruleMany >= MOST_RULES) {
            return NONE;
        }
        boolean isRead = ruleReader.read(tape);
        tape.length = 0;
        if (!isRead) {
            return -2 - tape.fault;
        }
        rules[ruleMany] = ruleReader.made();
        ruleMany++;
        return ruleMany - 1;
    }

    public int force(int rule) {
        if (rule < NONE || rule >= ruleMany) {
            return -2;
        }
        int was = inForce;
        inForce = rule;
        return was;
    }

    // ---- what there is

    public int keep(int keep, int what) {
        if (!isKeep(keep)) {
            return -3;
        }
        switch (what) {
            case 0: return told.room[keep];
            case 1: return told.cools[keep];
            case 2: return now.full[keep];
            case 3: return now.heat[keep];
            case 4: return now.place[keep];
            case 5: return now.beside[keep];
            default: return -3;
        }
    }

    public int person(int person, int what) {
        if (!isPerson(person) || !within(what, 0, 1)) {
            return NONE;
        }
        return what == 0 ? told.owner[person] : told.tells[person];
    }

    public int field(int field, int what) {
        if (!isField(field) || !within(what, 0, 2)) {
            return -2;
        }
        if (what == 0) {
            return told.crows[field];
        }
        int in = now.keepIn(field);
        return what == 1 ? in : keptOff(in, field);
    }

    public int count(int what) {
        switch (what) {
            case 0: return told.leak;
            case 1: return told.hot;
            case 2: return told.keeps;
            case 3: return told.people;
            case 4: return told.fields;
            case 5: return ruleMany;
            case 6: return inForce;
            case 7: return now.night;
            case 8: return now.fullAll();
            case 9: return now.burntBits();
            case 10: return now.homeBits();
            case 11: return keptOffAll();
            case 12: return notes.many;
            case 13: return actMany;
            case 14: return x;
            case 15: return tape.length;
            default: return NONE;
        }
    }

    private static boolean within(int number, int least, int most) {
        return number >= least && number <= most;
    }

    private boolean isKeep(int keep) {
        return within(keep, 0, told.keeps - 1);
    }

    private boolean isPerson(int person) {
        return within(person, 0, told.people - 1);
    }

    private boolean isField(int field) {
        return within(field, 0, told.fields - 1);
    }

    private int keptOff(int keep, int field) {
        return isKeep(keep) && isField(field) ? Math.min(told.crows[field], now.full[keep]) : 0;
    }

    private int keptOffAll() {
        int all = 0;
        for (int k = 0; k < told.keeps; k++) {
            all += keptOff(k, now.place[k]);
        }
        return all;
    }

    private Rule ruleAt(int number) {
        return within(number, 0, ruleMany - 1) ? rules[number] : null;
    }

    // ---- ACTS

    public int night() {
        if (!told.isTold || now.night >= LAST_NIGHT) {
            return NONE;
        }
        remember();
        nights.take(told, ruleAt(inForce));
        return nights.pass(now);
    }

    public int air(int keep) {
        if (!isKeep(keep) || now.place[keep] != HOME || now.full[keep] + now.heat[keep] == 0) {
            return NONE;
        }
        remember();
        now.full[keep] /= 2;
        now.heat[keep] /= 2;
        return now.full[keep];
    }

    public int carry(int keep, int field) {
        if (!isKeep(keep) || now.place[keep] != HOME) {
            return NONE;
        }
        if (!isField(field) || now.keepIn(field) != NONE) {
            return NONE;
        }
        remember();
        now.place[keep] = field;
        return keptOff(keep, field);
    }

    public int fetch(int keep) {
        if (!isKeep(keep) || now.place[keep] < 0) {
            return NONE;
        }
        remember();
        int was = now.place[keep];
        now.place[keep] = HOME;
        return was;
    }

    public int seat(int one, int other) {
        if (!isKeep(one) || !isKeep(other) || one == other) {
            return NONE;
        }
        remember();
        now.beside[one] ^= 1 << other;
        now.beside[other] ^= 1 << one;
        return now.beside[one] >> other & 1;
    }

    public int undo() {
        if (actMany <= 0) {
            return NONE;
        }
        actMany--;
        actNext = (actNext + MOST_ACTS - 1) % MOST_ACTS;
        now.copy(acts[actNext]);
        return actMany;
    }

    private void remember() {
        acts[actNext].copy(now);
        actNext = (actNext + 1) % MOST_ACTS;
        actMany = Math.min(actMany + 1, MOST_ACTS);
    }

    // ---- how it goes on

    public int ahead(int keep, int n, int what) {
        if (!told.isTold || !within(n, 0, 100) || !within(what, 0, 2)) {
            return NONE;
        }
        if (what != 2 && !isKeep(keep)) {
            return NONE;
        }
        startFromNow();
        goOn(n);
        if (what == 2) {
            return run.burntBits();
        }
        return what == 0 ? run.full[keep] : run.heat[keep];
    }

    public int burns(int what) {
        if (!told.isTold || !within(what, 0, 1)) {
            return NONE;
        }
        startFromNow();
        for (int i = 0; i < FAR; i++) {
            int bits = nights.pass(run);
            if (bits != 0) {
                return what == 0 ? now.night + i : leastOf(bits);
            }
        }
        return -2;
    }

    public int full(int keep) {
        if (!isKeep(keep)) {
            return NONE;
        }
        startFromNow();
        for (int i = 0; i < FAR; i++) {
            nights.pass(run);
            if (run.full[keep] == told.room[keep]) {
                return now.night + i;
            }
        }
        return -2;
    }

    private static int leastOf(int bits) {
        for (int k = 0; k < MOST_KEEPS; k++) {
            if ((bits >> k & 1) != 0) {
                return k;
            }
        }
        return NONE;
    }

    private void startFromNow() {
        nights.take(told, ruleAt(inForce));
        run.copy(now);
    }

    private void goOn(int n) {
        for (int i = 0; i < n; i++) {
            nights.pass(run);
        }
    }

    // ---- where they had best be carried, and how they can sit

    public int placing(int what) {
        if (!told.isTold || !within(what, NONE, MOST_KEEPS - 1)) {
            return -3;
        }
        if (what != NONE && !isKeep(what)) {
            return -2;
        }
        int much = placings.find(told, now);
        return what == NONE ? much : placings.whereGoes(told, now, what);
    }

    public int spring(int n, int what) {
        if (!told.isTold || !within(n, 0, NEAR) || !within(what, 0, 1)) {
            return NONE;
        }
        startFromNow();
        int best = placings.find(told, run);
        int when = 0;
        for (int i = 1; i <= n; i++) {
            nights.pass(run);
            int much = placings.find(told, run);
            if (much > best) {
                best = much;
                when = i;
            }
        }
        return what == 0 ? when : best;
    }

    public int apart(int what) {
        if (!told.isTold || !within(what, NONE, MOST_KEEPS - 1)) {
            return -3;
        }
        if (what != NONE && !isKeep(what)) {
            return -2;
        }
        int many = benches.fewest(now);
        return what == NONE ? many : benches.of[what];
    }

    public int clash(int what) {
        if (!told.isTold || !within(what, 0, 1)) {
            return NONE;
        }
        int set = Benches.largestClash(now);
        return what == 0 ? Integer.bitCount(set) : set;
    }

    // ---- who tells how much

    public int silent(int n, int what) {
        if (!told.isTold || !within(n, 1, 40) || !within(what, 0, 2)) {
            return -2;
        }
        int who = NONE;
        int fewest = 0;
        int fullest = 0;
        for (int p = NONE; p < told.people; p++) {
            startFromNow();
            nights.nowTells(p, 0);
            goOn(n);
            int many = Integer.bitCount(run.burntBits());
            int much = run.fullAll();
            if (p == NONE || many < fewest || many == fewest && much > fullest) {
                who = p;
                fewest = many;
                fullest = much;
            }
        }
        if (what == 0) {
            return who;
        }
        return what == 1 ? fewest : fullest;
    }

    public int most(int person, int n) {
        if (!isPerson(person) || !within(n, 1, NEAR)) {
            return NONE;
        }
        int keep = told.owner[person];
        if (now.place[keep] == BURNT) {
            return NONE;
        }
        for (int much = 9; much >= 0; much--) {
            startFromNow();
            nights.nowTells(person, much);
            if (staysUnburnt(keep, n)) {
                return much;
            }
        }
        return -2;
    }

    public int had(int keep, int n, int much, int what) {
        if (!isKeep(keep) || now.place[keep] == BURNT) {
            return NONE;
        }
        if (!within(n, 1, 40) || !within(much, 0, 60) || !within(what, 0, 1)) {
            return NONE;
        }
        int many = 0;
        int least = -2;
        for (int f = 0; f <= told.room[keep]; f++) {
            startFromNow();
            run.full[keep] = f;
            if (staysUnburnt(keep, n) && run.full[keep] == much) {
                many++;
                least = least == -2 ? f : least;
            }
        }
        return what == 0 ? many : least;
    }

    public int rests(int one, int other, int n, int what) {
        if (!isPerson(one) || !isPerson(other) || one == other) {
            return NONE;
        }
        if (!within(n, 1, 20) || !within(what, 0, 2)) {
            return NONE;
        }
        fillPays(one, other, n);
        int many = 0;
        int first = NONE;
        for (int two = 0; two < 16; two++) {
            if (isRest(two)) {
                many++;
                first = first == NONE ? two : first;
            }
        }
        if (what == 0) {
            return many;
        }
        if (first == NONE) {
            return -2;
        }
        return what == 1 ? first / 4 * 3 : first % 4 * 3;
    }

    // BURNT is for good, so the rest of the NIGHTS need not be gone through.
    private boolean staysUnburnt(int keep, int n) {
        for (int i = 0; i < n; i++) {
            nights.pass(run);
            if (run.place[keep] == BURNT) {
                return false;
            }
        }
        return true;
    }

    private void fillPays(int one, int other, int n) {
        for (int two = 0; two < 16; two++) {
            startFromNow();
            nights.nowTells(one, two / 4 * 3);
            nights.nowTells(other, two % 4 * 3);
            goOn(n);
            pays[two] = payOf(told.owner[one]);
            pays[16 + two] = payOf(told.owner[other]);
        }
    }

    private int payOf(int keep) {
        return run.place[keep] == BURNT ? run.full[keep] - 20 : run.full[keep];
    }

    private boolean isRest(int two) {
        int mine = two / 4;
        int theirs = two % 4;
        for (int i = 0; i < 4; i++) {
            if (pays[i * 4 + theirs] > pays[two] || pays[16 + mine * 4 + i] > pays[16 + two]) {
                return false;
            }
        }
        return true;
    }

    // ---- rings and pence

    public int ring(int what) {
        if (!told.isTold || !within(what, 0, 1)) {
            return NONE;
        }
        startFromNow();
        for (int i = 0; i <= NEAR; i++) {
            begins[2 * i] = run.packed(0);
            begins[2 * i + 1] = run.packed(3);
            nights.pass(run);
        }
        for (int i = 0; i < NEAR; i++) {
            for (int j = i + 1; j <= NEAR; j++) {
                if (begins[2 * i] == begins[2 * j] && begins[2 * i + 1] == begins[2 * j + 1]) {
                    return what == 0 ? now.night + i : j - i;
                }
            }
        }
        return -2;
    }

    public int pence(int much, int keep) {
        if (!isKeep(keep) || !within(much, 0, 9999)) {
            return NONE;
        }
        int all = now.fullAll();
        if (all <= 0) {
            return 0;
        }
        int left = much;
        int ahead = 0;
        int lost = much * now.full[keep] % all;
        for (int k = 0; k < told.keeps; k++) {
            left -= much * now.full[k] / all;
            int itsLost = much * now.full[k] % all;
            if (itsLost > lost || itsLost == lost && k < keep) {
                ahead++;
            }
        }
        return much * now.full[keep] / all + (ahead < left ? 1 : 0);
    }

    // ---- by which RULE winters were

    public int note(int n, int keep, int much) {
        if (n == NONE) {
            notes.many = 0;
            return 0;
        }
        if (!within(n, 0, NEAR) || !isKeep(keep) || !within(much, 0, 60) || notes.many >= MOST_NOTES) {
            return -2;
        }
        notes.add(n, keep, much);
        return notes.many;
    }

    public int ruled(int what) {
        if (!told.isTold || !within(what, 0, 1)) {
            return -3;
        }
        int many = 0;
        int first = -2;
        for (int r = NONE; r < ruleMany; r++) {
            if (isSoBy(r, 0)) {
                many++;
                first = first == -2 ? r : first;
            }
        }
        return what == 0 ? many : first;
    }

    public int look(int n, int what) {
        if (!told.isTold || !within(n, 0, NEAR) || !within(what, 0, 1)) {
            return NONE;
        }
        int many = 0;
        for (int r = NONE; r < ruleMany; r++) {
            if (isSoBy(r, n)) {
                keepLook(many);
                many++;
            }
        }
        if (many == 0 || told.keeps == 0) {
            return -2;
        }
        int best = 0;
        int fewest = mostAlike(0, many);
        for (int k = 1; k < told.keeps; k++) {
            int alike = mostAlike(k, many);
            if (alike < fewest) {
                best = k;
                fewest = alike;
            }
        }
        return what == 0 ? best : fewest;
    }

    // Leaves in the last row of looks how FULL all KEEPS are at the begin of NIGHT n.
    private boolean isSoBy(int rule, int n) {
        nights.take(told, ruleAt(rule));
        run.begin(told);
        int last = Math.max(n, notes.lastNight());
        for (int i = 0; i <= last; i++) {
            if (!notes.areSo(run)) {
                return false;
            }
            if (i == n) {
                lookAtRun();
            }
            nights.pass(run);
        }
        return true;
    }

    private void lookAtRun() {
        for (int k = 0; k < MOST_KEEPS; k++) {
            looks[MOST_RULES * MOST_KEEPS + k] = run.full[k];
        }
    }

    private void keepLook(int row) {
        for (int k = 0; k < MOST_KEEPS; k++) {
            looks[row * MOST_KEEPS + k] = looks[MOST_RULES * MOST_KEEPS + k];
        }
    }

    private int mostAlike(int keep, int many) {
        int most = 0;
        for (int i = 0; i < many; i++) {
            int alike = 0;
            for (int j = 0; j < many; j++) {
                if (looks[i * MOST_KEEPS + keep] == looks[j * MOST_KEEPS + keep]) {
                    alike++;
                }
            }
            most = Math.max(most, alike);
        }
        return most;
    }

    // ---- winters of drawn frosts

    public int seed(int x) {
        if (x < 0) {
            return NONE;
        }
        int was = this.x;
        this.x = x;
        return was;
    }

    public int frosts(int m, int n, int p, int what) {
        if (!told.isTold || !within(m, 1, 10) || !within(n, 1, NEAR)) {
            return NONE;
        }
        if (!within(p, 0, 100) || !within(what, 0, 1)) {
            return NONE;
        }
        int was = x;
        int sum = 0;
        for (int i = 0; i < m; i++) {
            startFromNow();
            goOnInFrost(n, p);
            sum += what == 0 ? Integer.bitCount(run.burntBits()) : run.fullAll();
        }
        x = was;
        return sum;
    }

    private void goOnInFrost(int n, int p) {
        for (int i = 0; i < n; i++) {
            if (draw() % 100 < p && told.keeps > 0) {
                run.heat[draw() % told.keeps] = 0;
            }
            nights.pass(run);
        }
    }

    private int draw() {
        x = (int) ((x * 1103515245L + 12345L) % 2147483648L);
        return x / 65536;
    }

    // ---- IMAGES

    public int image(int k) {
        if (!within(k, 0, MOST_IMAGES - 1)) {
            return NONE;
        }
        Image image = images[k];
        image.isMade = true;
        image.told = told;
        image.scene.copy(now);
        image.inForce = inForce;
        image.notes.copy(notes);
        image.x = x;
        return now.night;
    }

    public int back(int k) {
        if (!within(k, 0, MOST_IMAGES - 1)) {
            return NONE;
        }
        Image image = images[k];
        if (!image.isMade || image.told == null) {
            return NONE;
        }
        told = image.told;
        now.copy(image.scene);
        inForce = image.inForce;
        notes.copy(image.notes);
        x = image.x;
        actMany = 0;
        return now.night;
    }

    // ---- the classes inside

    /** The TAPE, and a walk along it that stops at the first FAULT. */
    private static final class Tape {
        static final int BYTE = 0;
        static final int NUMBER = 1;
        static final int DEEP = 2;
        static final int MANY = 3;
        static final int CLAUSE = 4;
        static final int THE_END = -1;

        final int[] bytes = new int[MOST_BYTES];
        int length = 0;
        int place = 0;
        int start = 0;
        int number = 0;
        int fault = 0;

        void add(int four) {
            for (int shift = 24; shift >= 0 && length < MOST_BYTES; shift -= 8) {
                bytes[length] = four >> shift & 255;
                length++;
            }
        }

        void begin() {
            place = 0;
            start = 0;
            fault = 0;
        }

        int byteAt(int i) {
            return i >= 0 && i < length && i < MOST_BYTES ? bytes[i] : THE_END;
        }

        // The walk is then at what it answers, the blanks ahead of it behind.
        int sign() {
            while (place < length && byteAt(place) == ' ') {
                place++;
            }
            return byteAt(place);
        }

        boolean fail(int at, int kind) {
            fault = 1 + 8 * at + kind;
            return false;
        }

        boolean passSign(int sign) {
            if (sign() != sign) {
                return fail(place, BYTE);
            }
            place++;
            return true;
        }

        // The number in list (each word with a blank behind it) of the WORD that the walk
        // is at; NONE, and the walk stays, if it is none of these.
        int passWord(String list) {
            sign();
            start = place;
            int behind = place;
            while (behind < length && byteAt(behind) >= 'a' && byteAt(behind) <= 'z') {
                behind++;
            }
            int number = 0;
            int from = 0;
            for (int i = 0; i < list.length(); i++) {
                if (list.charAt(i) == ' ') {
                    if (isWord(list, from, i, behind)) {
                        place = behind;
                        return number;
                    }
                    number++;
                    from = i + 1;
                }
            }
            return NONE;
        }

        private boolean isWord(String list, int from, int to, int behind) {
            if (behind - start != to - from) {
                return false;
            }
            for (int i = from; i < to; i++) {
                if (list.charAt(i) != byteAt(start + i - from)) {
                    return false;
                }
            }
            return true;
        }

        boolean passNumber(int least, int most) {
            sign();
            start = place;
            number = 0;
            while (place < length && byteAt(place) >= '0' && byteAt(place) <= '9') {
                if (place - start < 5) {
                    number = number * 10 + byteAt(place) - '0';
                }
                place++;
            }
            if (place == start) {
                return fail(place, BYTE);
            }
            if (place - start > 5 || number < least || number > most) {
                return fail(start, NUMBER);
            }
            return true;
        }
    }

    /** What the text of a DALE told; nobody changes it once it is read, so IMAGES share it. */
    private static final class Dale {
        boolean isTold = false;
        int leak = 0;
        int hot = 0;
        int keeps = 0;
        int people = 0;
        int fields = 0;
        final int[] room = new int[MOST_KEEPS];
        final int[] cools = new int[MOST_KEEPS];
        final int[] beside = new int[MOST_KEEPS];
        final int[] owner = new int[MOST_PEOPLE];
        final int[] tells = new int[MOST_PEOPLE];
        final int[] crows = new int[MOST_FIELDS];

        int othersOf(int person) {
            int many = 0;
            for (int p = 0; p < people; p++) {
                if (p != person && owner[p] == owner[person]) {
                    many++;
                }
            }
            return many;
        }
    }

    /** Reads a DALE from the TAPE. */
    private static final class DaleReader {
        private static final String WORDS = "dale keep person field beside ";
        private static final int DALE = 0;
        private static final int KEEP = 1;
        private static final int PERSON = 2;
        private static final int FIELD = 3;

        static boolean read(Tape tape, Dale dale) {
            tape.begin();
            for (int clause = 0; clause <= MOST_CLAUSES; clause++) {
                if (!readClause(tape, dale, clause)) {
                    return false;
                }
                if (tape.sign() == Tape.THE_END) {
                    return true;
                }
                if (!tape.passSign(';')) {
                    return false;
                }
            }
            return false;
        }

        private static boolean readClause(Tape tape, Dale dale, int clause) {
            int word = tape.passWord(WORDS);
            if (word == NONE) {
                return tape.fail(tape.place, Tape.BYTE);
            }
            if (clause >= MOST_CLAUSES || (clause == 0) != (word == DALE) || !hasRoomFor(dale, word)) {
                return tape.fail(tape.start, Tape.CLAUSE);
            }
            switch (word) {
                case DALE: return readDale(tape, dale);
                case KEEP: return readKeep(tape, dale);
                case PERSON: return readPerson(tape, dale);
                case FIELD: return readField(tape, dale);
                default: return readBeside(tape, dale);
            }
        }

        private static boolean hasRoomFor(Dale dale, int word) {
            switch (word) {
                case KEEP: return dale.keeps < MOST_KEEPS;
                case PERSON: return dale.people < MOST_PEOPLE;
                case FIELD: return dale.fields < MOST_FIELDS;
                default: return true;
            }
        }

        private static boolean readDale(Tape tape, Dale dale) {
            if (!tape.passNumber(0, 9)) {
                return false;
            }
            dale.leak = tape.number;
            if (!tape.passNumber(1, 99)) {
                return false;
            }
            dale.hot = tape.number;
            dale.isTold = true;
            return true;
        }

        private static boolean readKeep(Tape tape, Dale dale) {
            if (!tape.passNumber(1, 60)) {
                return false;
            }
            dale.room[dale.keeps] = tape.number;
            if (!tape.passNumber(0, 20)) {
                return false;
            }
            dale.cools[dale.keeps] = tape.number;
            dale.keeps++;
            return true;
        }

        private static boolean readPerson(Tape tape, Dale dale) {
            if (!tape.passNumber(0, dale.keeps - 1)) {
                return false;
            }
            dale.owner[dale.people] = tape.number;
            if (!tape.passNumber(0, 9)) {
                return false;
            }
            dale.tells[dale.people] = tape.number;
            dale.people++;
            return true;
        }

        private static boolean readField(Tape tape, Dale dale) {
            if (!tape.passNumber(0, 60)) {
                return false;
            }
            dale.crows[dale.fields] = tape.number;
            dale.fields++;
            return true;
        }

        private static boolean readBeside(Tape tape, Dale dale) {
            if (!tape.passNumber(0, dale.keeps - 1)) {
                return false;
            }
            int one = tape.number;
            if (!tape.passNumber(0, dale.keeps - 1)) {
                return false;
            }
            int other = tape.number;
            if (one == other) {
                return tape.fail(tape.start, Tape.NUMBER);
            }
            dale.beside[one] |= 1 << other;
            dale.beside[other] |= 1 << one;
            return true;
        }
    }

    /** A RULE as steps on a stack: 0 and above a NUMBER, below it a WORD or what is done. */
    private static final class Rule {
        static final int PLUS = -20;
        static final int MINUS = -21;
        static final int TIMES = -22;
        static final int BY = -23;
        static final int REST = -24;
        static final int LESS = -25;
        static final int AT_MOST = -26;
        static final int SAME = -27;
        static final int AT_LEAST = -28;
        static final int MORE = -29;
        static final int NOT = -30;
        static final int AND = -31;
        static final int OR = -32;

        final int[] steps;
        // Of each CLAUSE where its SUM begins, where its TEST does (where it ends, without
        // one), and where it ends.
        final int[] bounds;
        final int clauses;

        Rule(int[] steps, int[] bounds, int clauses) {
            this.steps = steps;
            this.bounds = bounds;
            this.clauses = clauses;
        }
    }

    /** Reads a RULE from the TAPE. */
    private static final class RuleReader {
        private static final String WORDS =
            "person keep tells full room heat cools beside others burnt night ";
        private static final int CLAUSES = 12;
        private static final int DEEPEST = 10;
        private static final int VALUES = 60;

        private final int[] steps = new int[MOST_BYTES];
        private final int[] bounds = new int[3 * CLAUSES];
        private int stepMany = 0;
        private int clauses = 0;
        private int values = 0;

        boolean read(Tape tape) {
            stepMany = 0;
            clauses = 0;
            values = 0;
            tape.begin();
            for (int clause = 0; clause <= CLAUSES; clause++) {
                if (!readClause(tape)) {
                    return false;
                }
                if (tape.sign() == Tape.THE_END) {
                    return true;
                }
                if (!tape.passSign(';')) {
                    return false;
                }
            }
            return false;
        }

        Rule made() {
            return new Rule(Arrays.copyOf(steps, stepMany), Arrays.copyOf(bounds, 3 * clauses), clauses);
        }

        private boolean readClause(Tape tape) {
            if (tape.passWord("tell ") == NONE) {
                return tape.fail(tape.place, Tape.BYTE);
            }
            if (clauses >= CLAUSES) {
                return tape.fail(tape.start, Tape.CLAUSE);
            }
            bounds[3 * clauses] = stepMany;
            if (!readSum(tape)) {
                return false;
            }
            bounds[3 * clauses + 1] = stepMany;
            if (tape.passWord("if ") == 0 && !readTest(tape, 0)) {
                return false;
            }
            bounds[3 * clauses + 2] = stepMany;
            clauses++;
            return true;
        }

        // An OR waits until the PART behind it is whole.
        private boolean readTest(Tape tape, int depth) {
            if (!readFact(tape, depth)) {
                return false;
            }
            boolean waits = false;
            for (int i = 0; i < MOST_BYTES; i++) {
                int word = tape.passWord("or and ");
                boolean isAnd = word == 1;
                if (waits && !isAnd) {
                    add(Rule.OR);
                    waits = false;
                }
                if (word == NONE) {
                    return true;
                }
                if (!readFact(tape, depth)) {
                    return false;
                }
                if (isAnd) {
                    add(Rule.AND);
                } else {
                    waits = true;
                }
            }
            return true;
        }

        private boolean readFact(Tape tape, int depth) {
            if (tape.sign() == '[') {
                if (depth >= DEEPEST) {
                    return tape.fail(tape.place, Tape.DEEP);
                }
                tape.place++;
                return readTest(tape, depth + 1) && tape.passSign(']');
            }
            if (tape.passWord("not ") == 0) {
                if (depth >= DEEPEST) {
                    return tape.fail(tape.start, Tape.DEEP);
                }
                if (!readFact(tape, depth + 1)) {
                    return false;
                }
                add(Rule.NOT);
                return true;
            }
            if (!readSum(tape)) {
                return false;
            }
            tape.sign();
            int at = tape.place;
            int step = passCompare(tape);
            if (step == 0) {
                return tape.fail(at, Tape.BYTE);
            }
            if (!isCounted(tape, at) || !readSum(tape)) {
                return false;
            }
            add(step);
            return true;
        }

        private static int passCompare(Tape tape) {
            int sign = tape.byteAt(tape.place);
            if (sign != '<' && sign != '=' && sign != '>') {
                return 0;
            }
            tape.place++;
            if (sign == '=') {
                return Rule.SAME;
            }
            if (tape.byteAt(tape.place) == '=') {
                tape.place++;
                return sign == '<' ? Rule.AT_MOST : Rule.AT_LEAST;
            }
            return sign == '<' ? Rule.LESS : Rule.MORE;
        }

        // A + or - waits until the TERM behind it is whole.
        private boolean readSum(Tape tape) {
            if (!readValue(tape)) {
                return false;
            }
            int waits = 0;
            for (int i = 0; i < MOST_BYTES; i++) {
                int step = stepOf(tape.sign());
                boolean isSum = step == Rule.PLUS || step == Rule.MINUS;
                if (waits != 0 && (isSum || step == 0)) {
                    add(waits);
                    waits = 0;
                }
                if (step == 0) {
                    return true;
                }
                tape.place++;
                if (!readValue(tape)) {
                    return false;
                }
                if (isSum) {
                    waits = step;
                } else {
                    add(step);
                }
            }
            return true;
        }

        private static int stepOf(int sign) {
            switch (sign) {
                case '+': return Rule.PLUS;
                case '-': return Rule.MINUS;
                case '*': return Rule.TIMES;
                case '/': return Rule.BY;
                case '%': return Rule.REST;
                default: return 0;
            }
        }

        private boolean readValue(Tape tape) {
            int sign = tape.sign();
            if (sign >= 'a' && sign <= 'z') {
                int word = tape.passWord(WORDS);
                if (word == NONE) {
                    return tape.fail(tape.start, Tape.BYTE);
                }
                add(-1 - word);
            } else {
                if (!tape.passNumber(0, 99999)) {
                    return false;
                }
                add(tape.number);
            }
            return isCounted(tape, tape.start);
        }

        private boolean isCounted(Tape tape, int at) {
            values++;
            return values <= VALUES || tape.fail(at, Tape.MANY);
        }

        // Each step stands for bytes of its own, so there is always room for it.
        private void add(int step) {
            if (stepMany < steps.length) {
                steps[stepMany] = step;
                stepMany++;
            }
        }
    }

    /** How FULL and hot KEEPS are, where, BESIDE which, and in which NIGHT. */
    private static final class Scene {
        int keeps = 0;
        int night = 0;
        final int[] full = new int[MOST_KEEPS];
        final int[] heat = new int[MOST_KEEPS];
        final int[] place = new int[MOST_KEEPS];
        final int[] beside = new int[MOST_KEEPS];

        void begin(Dale dale) {
            keeps = dale.keeps;
            night = 0;
            for (int k = 0; k < MOST_KEEPS; k++) {
                full[k] = 0;
                heat[k] = 0;
                place[k] = HOME;
                beside[k] = dale.beside[k];
            }
        }

        void copy(Scene from) {
            keeps = from.keeps;
            night = from.night;
            for (int k = 0; k < MOST_KEEPS; k++) {
                full[k] = from.full[k];
                heat[k] = from.heat[k];
                place[k] = from.place[k];
                beside[k] = from.beside[k];
            }
        }

        int fullAll() {
            int all = 0;
            for (int k = 0; k < keeps; k++) {
                all += full[k];
            }
            return all;
        }

        int burntBits() {
            return bitsAt(BURNT);
        }

        int homeBits() {
            return bitsAt(HOME);
        }

        private int bitsAt(int where) {
            int bits = 0;
            for (int k = 0; k < keeps; k++) {
                if (place[k] == where) {
                    bits |= 1 << k;
                }
            }
            return bits;
        }

        int keepIn(int field) {
            for (int k = 0; k < keeps; k++) {
                if (place[k] == field) {
                    return k;
                }
            }
            return NONE;
        }

        // All of three KEEPS in one number: 0 to 60, below 99, and -2 to 3 fit in 8 bits each.
        long packed(int from) {
            long all = 0;
            for (int k = from; k < from + 3 && k < MOST_KEEPS; k++) {
                all = all << 8 | full[k];
                all = all << 8 | heat[k];
                all = all << 4 | place[k] + 2;
            }
            return all;
        }
    }

    /** NIGHTS of a DALE by a RULE, or by none. */
    private static final class Nights {
        private Dale dale = null;
        private Rule rule = null;
        private final int[] tells = new int[MOST_PEOPLE];
        private final int[] before = new int[MOST_KEEPS];
        // Two waiting FACTS for each depth, and what one SUM needs, stay far below this.
        private final long[] stack = new long[64];
        private int home = 0;
        private int burnt = 0;

        void take(Dale dale, Rule rule) {
            this.dale = dale;
            this.rule = rule;
            for (int p = 0; p < MOST_PEOPLE; p++) {
                tells[p] = dale.tells[p];
            }
        }

        void nowTells(int person, int much) {
            if (person >= 0 && person < MOST_PEOPLE) {
                tells[person] = much;
            }
        }

        // One NIGHT: the KEEPS that are BURNT in it, as bits.
        int pass(Scene scene) {
            if (dale == null) {
                return 0;
            }
            home = scene.homeBits();
            burnt = Integer.bitCount(scene.burntBits());
            for (int p = 0; p < dale.people; p++) {
                int keep = dale.owner[p];
                if ((home >> keep & 1) != 0 && (rule == null || sumFor(scene, p) > 0)) {
                    scene.full[keep] = Math.min(dale.room[keep], scene.full[keep] + tells[p]);
                }
            }
            overhear(scene);
            scene.night++;
            return warm(scene);
        }

        private void overhear(Scene scene) {
            for (int k = 0; k < dale.keeps; k++) {
                before[k] = scene.full[k];
            }
            for (int k = 0; k < dale.keeps; k++) {
                int near = (home >> k & 1) != 0 ? scene.beside[k] & home : 0;
                for (int j = 0; j < dale.keeps && near >> j != 0; j++) {
                    if ((near >> j & 1) != 0 && before[j] - before[k] > dale.leak) {
                        scene.full[k] = Math.min(dale.room[k], scene.full[k] + dale.leak);
                    }
                }
            }
        }

        private int warm(Scene scene) {
            int bits = 0;
            for (int k = 0; k < dale.keeps; k++) {
                int cools = scene.place[k] >= 0 ? 2 * dale.cools[k] : dale.cools[k];
                scene.heat[k] = Math.max(0, scene.heat[k] + scene.full[k] / 4 - cools);
                if (scene.heat[k] >= dale.hot) {
                    scene.full[k] = 0;
                    scene.heat[k] = 0;
                    scene.place[k] = BURNT;
                    bits |= 1 << k;
                }
            }
            return bits;
        }

        private long sumFor(Scene scene, int person) {
            for (int c = 0; c < rule.clauses; c++) {
                int sum = rule.bounds[3 * c];
                int test = rule.bounds[3 * c + 1];
                int end = rule.bounds[3 * c + 2];
                if (test == end || worth(scene, person, test, end) != 0) {
                    return worth(scene, person, sum, test);
                }
            }
            return 0;
        }

        private long worth(Scene scene, int person, int from, int to) {
            int top = 0;
            for (int i = from; i < to && i < rule.steps.length; i++) {
                int step = rule.steps[i];
                if (step > Rule.PLUS) {
                    if (top < stack.length) {
                        stack[top] = step >= 0 ? step : wordOf(scene, person, -1 - step);
                        top++;
                    }
                } else if (step == Rule.NOT) {
                    if (top >= 1) {
                        stack[top - 1] = 1 - stack[top - 1];
                    }
                } else if (top >= 2) {
                    stack[top - 2] = done(step, stack[top - 2], stack[top - 1]);
                    top--;
                }
            }
            return stack[0];
        }

        private long wordOf(Scene scene, int person, int word) {
            int keep = dale.owner[person];
            switch (word) {
                case 0: return person;
                case 1: return keep;
                case 2: return tells[person];
                case 3: return scene.full[keep];
                case 4: return dale.room[keep];
                case 5: return scene.heat[keep];
                case 6: return dale.cools[keep];
                case 7: return Integer.bitCount(scene.beside[keep] & home);
                case 8: return dale.othersOf(person);
                case 9: return burnt;
                default: return scene.night;
            }
        }

        private static long done(int step, long a, long b) {
            switch (step) {
                case Rule.PLUS: return a + b;
                case Rule.MINUS: return a - b;
                case Rule.TIMES: return a * b;
                case Rule.BY: return b == 0 ? 0 : a / b;
                case Rule.REST: return b == 0 ? 0 : a % b;
                case Rule.LESS: return a < b ? 1 : 0;
                case Rule.AT_MOST: return a <= b ? 1 : 0;
                case Rule.SAME: return a == b ? 1 : 0;
                case Rule.AT_LEAST: return a >= b ? 1 : 0;
                case Rule.MORE: return a > b ? 1 : 0;
                case Rule.AND: return a & b;
                default: return a | b;
            }
        }
    }

    /** PLACING, KEEP by KEEP from the last, for each set of FIELDS that are taken. */
    private static final class Placings {
        private static final int SETS = 1 << MOST_FIELDS;

        // Eight for each one KEPT OFF, less one for each KEEP that is carried.
        private final int[] best = new int[(MOST_KEEPS + 1) * SETS];

        // How much is KEPT OFF.
        int find(Dale dale, Scene scene) {
            int taken = takenIn(dale, scene);
            for (int set = 0; set < SETS; set++) {
                best[dale.keeps * SETS + set] = 0;
            }
            for (int k = dale.keeps - 1; k >= 0; k--) {
                for (int set = 0; set < SETS; set++) {
                    if ((set & taken) == taken) {
                        best[k * SETS + set] = bestFrom(dale, scene, k, set);
                    }
                }
            }
            return (best[taken] + 7) / 8;
        }

        // To be asked behind find alone, of the same.
        int whereGoes(Dale dale, Scene scene, int keep) {
            int set = takenIn(dale, scene);
            int goes = HOME;
            for (int k = 0; k <= keep && k < dale.keeps; k++) {
                goes = firstBest(dale, scene, k, set);
                set = goes == HOME ? set : set | 1 << goes;
            }
            return goes;
        }

        private static int takenIn(Dale dale, Scene scene) {
            int taken = 0;
            for (int f = 0; f < dale.fields; f++) {
                if (scene.keepIn(f) != NONE) {
                    taken |= 1 << f;
                }
            }
            return taken;
        }

        private int bestFrom(Dale dale, Scene scene, int k, int set) {
            int most = best[(k + 1) * SETS + set];
            for (int f = 0; f < dale.fields && scene.place[k] == HOME; f++) {
                if ((set >> f & 1) == 0) {
                    most = Math.max(most, bestWith(dale, scene, k, set, f));
                }
            }
            return most;
        }

        private int bestWith(Dale dale, Scene scene, int k, int set, int f) {
            int kept = Math.min(dale.crows[f], scene.full[k]);
            return best[(k + 1) * SETS + (set | 1 << f)] + 8 * kept - 1;
        }

        private int firstBest(Dale dale, Scene scene, int k, int set) {
            int most = best[k * SETS + set];
            if (scene.place[k] != HOME || best[(k + 1) * SETS + set] == most) {
                return HOME;
            }
            for (int f = 0; f < dale.fields; f++) {
                if ((set >> f & 1) == 0 && bestWith(dale, scene, k, set, f) == most) {
                    return f;
                }
            }
            return HOME;
        }
    }

    /** APART and CLASH. */
    private static final class Benches {
        final int[] of = new int[MOST_KEEPS];

        int fewest(Scene scene) {
            for (int many = 0; many < MOST_KEEPS; many++) {
                if (canSit(scene, 0, many)) {
                    return many;
                }
            }
            return canSit(scene, 0, MOST_KEEPS) ? MOST_KEEPS : NONE;
        }

        private boolean canSit(Scene scene, int keep, int many) {
            if (keep >= scene.keeps || keep >= MOST_KEEPS) {
                return true;
            }
            if (scene.place[keep] == BURNT) {
                of[keep] = NONE;
                return canSit(scene, keep + 1, many);
            }
            for (int bench = 0; bench < many; bench++) {
                if (isFree(scene, keep, bench)) {
                    of[keep] = bench;
                    if (canSit(scene, keep + 1, many)) {
                        return true;
                    }
                }
            }
            return false;
        }

        // Of KEEPS that sit already; one that is BURNT sits on NONE.
        private boolean isFree(Scene scene, int keep, int bench) {
            for (int k = 0; k < keep; k++) {
                if (of[k] == bench && (scene.beside[keep] >> k & 1) != 0) {
                    return false;
                }
            }
            return true;
        }

        static int largestClash(Scene scene) {
            int burnt = scene.burntBits();
            int largest = 0;
            for (int set = 1; set < 1 << scene.keeps; set++) {
                boolean isLarger = Integer.bitCount(set) > Integer.bitCount(largest);
                if (isLarger && (set & burnt) == 0 && isClash(scene, set)) {
                    largest = set;
                }
            }
            return largest;
        }

        private static boolean isClash(Scene scene, int set) {
            for (int k = 0; k < scene.keeps; k++) {
                if ((set >> k & 1) != 0 && (set & ~scene.beside[k] & ~(1 << k)) != 0) {
                    return false;
                }
            }
            return true;
        }
    }

    /** What was told of winters: in which NIGHT which KEEP was how FULL. */
    private static final class Notes {
        int many = 0;
        private final int[] night = new int[MOST_NOTES];
        private final int[] keep = new int[MOST_NOTES];
        private final int[] much = new int[MOST_NOTES];

        void add(int n, int k, int m) {
            if (many < MOST_NOTES) {
                night[many] = n;
                keep[many] = k;
                much[many] = m;
                many++;
            }
        }

        void copy(Notes from) {
            many = from.many;
            for (int i = 0; i < MOST_NOTES; i++) {
                night[i] = from.night[i];
                keep[i] = from.keep[i];
                much[i] = from.much[i];
            }
        }

        int lastNight() {
            int last = 0;
            for (int i = 0; i < many; i++) {
                last = Math.max(last, night[i]);
            }
            return last;
        }

        // Those of the NIGHT that it is.
        boolean areSo(Scene scene) {
            for (int i = 0; i < many; i++) {
                if (night[i] == scene.night && scene.full[keep[i]] != much[i]) {
                    return false;
                }
            }
            return true;
        }
    }

    /** All but the TAPE and the RULES, as it once was. */
    private static final class Image {
        boolean isMade = false;
        Dale told = null;
        final Scene scene = new Scene();
        int inForce = NONE;
        final Notes notes = new Notes();
        int x = 0;
    }
}
