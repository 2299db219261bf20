public final class NineTimes {
    public static final int NONE = -1;

    private static final int MOST_COUNTIES = 7;
    private static final int MOST_RAILS = 12;
    private static final int MOST_MEN = 6;
    private static final int MOST_STATEMENTS = 80;
    private static final int MOST_OPEN = 7;
    private static final int MOST_SIGNS = 6;
    private static final int MOST_LETTERS = 6;
    private static final int MOST_DIGITS = 4;
    private static final int MOST_BYTES = 1600;
    private static final int MOST_AHEAD = 80;
    private static final int MOST_BEST = 40;
    private static final int MOST_AT_ONCE = 100;
    private static final int MOST_STAFF_WEEKS = 99;
    private static final int MOST_SEEN = 16;
    private static final int MOST_KEPT = 60;
    private static final int MOST_ACTS = 20;
    private static final int MOST_ROUND = 4;

    private static final int LAST_WEEK = 999;
    private static final int MOST_QUOTA = 20;
    private static final int MOST_PAY = 999;
    private static final int MOST_GUARD = 9;
    private static final int MOST_RAIL_WEEKS = 9;
    private static final int MOST_SIGN_BITS = 63;
    private static final int MOST_POST = 9;
    private static final int MOST_NAMES = 99;
    private static final int MOST_PURSE = 9999;
    private static final int MOST_WEEKS_LEFT = 99;
    private static final int PAY_STEP = 37;
    private static final int POST_UNTOLD = 2;

    // What a MAN is.
    private static final int FREE = 0;
    private static final int ON_ROAD = 1;
    private static final int IN_TRAIN = 2;
    private static final int IS_CAUGHT = 3;
    private static final int AT_FRONT = 4;

    // What is KEPT.
    private static final int KEPT_ENLISTS = 1;
    private static final int KEPT_JUMPS = 2;
    private static final int KEPT_CAUGHT = 3;
    private static final int KEPT_FRONT = 4;

    // Above every WEEK and every way, yet small enough to be added without wrapping.
    private static final int NEVER = 1000000;

    // The kinds of FAULTS.
    private static final int FAULT_TEXT = 1;
    private static final int FAULT_GIVEN = 2;
    private static final int FAULT_NAME = 3;
    private static final int FAULT_NUMBER = 4;
    private static final int FAULT_OPEN = 5;
    private static final int FAULT_MANY = 6;

    // What is refused, by the numbers of status().
    private static final int REFUSED_TAPE = 0;
    private static final int REFUSED_WAR = 1;
    private static final int REFUSED_WEEKS = 2;
    private static final int REFUSED_ACT = 3;
    private static final int REFUSED_UNDO = 4;
    private static final int REFUSED_TOLD = 5;
    private static final int REFUSED_KINDS = 6;

    // The OWN WORDS, by their places in OWN_WORDS.
    private static final String OWN_WORDS =
        "county quota pays guard rail to weeks man at signs jumps likes post names purse week far if or and not all min max ";
    private static final int OWN_COUNT = 24;
    private static final int WORD_COUNTY = 0;
    private static final int WORD_QUOTA = 1;
    private static final int WORD_PAYS = 2;
    private static final int WORD_GUARD = 3;
    private static final int WORD_RAIL = 4;
    private static final int WORD_TO = 5;
    private static final int WORD_WEEKS = 6;
    private static final int WORD_MAN = 7;
    private static final int WORD_AT = 8;
    private static final int WORD_SIGNS = 9;
    private static final int WORD_JUMPS = 10;
    private static final int WORD_LIKES = 11;
    private static final int WORD_POST = 12;
    private static final int WORD_NAMES = 13;
    private static final int WORD_PURSE = 14;
    private static final int WORD_WEEK = 15;
    private static final int WORD_FAR = 16;
    private static final int WORD_IF = 17;
    private static final int WORD_OR = 18;
    private static final int WORD_AND = 19;
    private static final int WORD_NOT = 20;
    private static final int WORD_ALL = 21;
    private static final int WORD_MIN = 22;
    private static final int WORD_MAX = 23;

    // The steps of a Formula; a step that is not below 0 is a number.
    private static final int STEP_GUARD = -1;
    private static final int STEP_PAYS = -2;
    private static final int STEP_NAMES = -3;
    private static final int STEP_PURSE = -4;
    private static final int STEP_WEEK = -5;
    private static final int STEP_QUOTA = -6;
    private static final int STEP_FAR = -7;
    private static final int STEP_LAST_PART = -7;
    private static final int STEP_NOT = -8;
    private static final int STEP_IF = -9;
    private static final int STEP_ADD = -10;
    private static final int STEP_LESS = -11;
    private static final int STEP_TIMES = -12;
    private static final int STEP_BY = -13;
    private static final int STEP_LEFT = -14;
    private static final int STEP_MIN = -15;
    private static final int STEP_MAX = -16;
    private static final int STEP_BELOW = -17;
    private static final int STEP_ABOVE = -18;
    private static final int STEP_EQUAL = -19;
    private static final int STEP_AND = -20;
    private static final int STEP_OR = -21;

    private static final long MOST_RESULT = 1000000L;
    // Seven that are open hold up to five pending values each.
    private static final int MOST_PENDING = 64;

    // The kinds of what a Scanner reads.
    private static final int READ_END = 0;
    private static final int READ_WORD = 1;
    private static final int READ_NUMBER = 2;
    private static final int READ_SIGN = 3;
    private static final int READ_WRONG = 4;

    private final Tape tape;
    private final Reader reader;
    private final March march;
    private final Rounds rounds;
    private final Acts acts;
    private final Image image;
    private final State now;
    private final State ahead;
    private War war;
    private War spare;
    private int seed;
    private int faultKind;
    private int faultPlace;
    private final int[] seenSign;
    private final int[] seenHas;
    private int seen;
    private final int[] refused;

    public NineTimes() {
        tape = new Tape();
        war = new War();
        spare = new War();
        now = new State();
        ahead = new State();
        reader = new Reader(tape, spare);
        march = new March();
        rounds = new Rounds(war, now);
        acts = new Acts();
        image = new Image(tape);
        seed = 1;
        faultKind = 0;
        faultPlace = NONE;
        seenSign = new int[MOST_SEEN];
        seenHas = new int[MOST_SEEN];
        seen = 0;
        refused = new int[REFUSED_KINDS];
    }

    public int feed(int a, int b, int c, int d, int e) {
        if (!tape.hasRoom(20)) {
            refuse(REFUSED_TAPE);
            return NONE;
        }
        tape.addNumber(a);
        tape.addNumber(b);
        tape.addNumber(c);
        tape.addNumber(d);
        tape.addNumber(e);
        return tape.length;
    }

    public boolean end(int n) {
        if (n < 0 || n > tape.length) {
            refuse(REFUSED_TAPE);
            return false;
        }
        tape.length = n;
        return true;
    }

    public int war() {
        boolean read = reader.readWar(spare);
        tape.length = 0;
        faultKind = reader.faultKind;
        faultPlace = reader.faultPlace;
        if (!read) {
            refuse(REFUSED_WAR);
            return NONE;
        }
        War told = spare;
        spare = war;
        war = told;
        now.start(war);
        acts.forget();
        seen = 0;
        return war.statements;
    }

    public int fault(int what) {
        switch (what) {
            case 0: return faultKind;
            case 1: return faultPlace;
            default: return NONE;
        }
    }

    public int has(int what) {
        switch (what) {
            case 0: return war.counties;
            case 1: return war.rails;
            case 2: return war.men;
            case 3: return now.week;
            case 4: return total(now.quota, war.counties);
            case 5: return howMany(now.is, war.men, IS_CAUGHT);
            case 6: return howMany(now.is, war.men, AT_FRONT);
            case 7: return total(now.names, war.men);
            case 8: return total(now.purse, war.men);
            case 9: return now.told;
            case 10: return seen;
            case 11: return acts.count;
            case 12: return seed;
            default: return NONE;
        }
    }

    public int letter(int kind, int which, int k) {
        if (k < 0 || k >= MOST_LETTERS) {
            return NONE;
        }
        if (kind == 0 && war.hasCounty(which)) {
            return letterOf(at(war.countyNames, which), k);
        }
        if (kind == 1 && war.hasMan(which)) {
            return letterOf(at(war.manNames, which), k);
        }
        return NONE;
    }

    public int county(int county, int what) {
        if (!war.hasCounty(county)) {
            return NONE;
        }
        switch (what) {
            case 0: return at(now.quota, county);
            case 1: return at(now.pays, county);
            case 2: return at(now.guard, county);
            case 3: return knownBits(county);
            default: return NONE;
        }
    }

    public int way(int from, int to) {
        return war.distance(from, to);
    }

    public int man(int man, int what) {
        if (!war.hasMan(man)) {
            return NONE;
        }
        switch (what) {
            case 0: return at(now.place, man);
            case 1: return at(now.is, man);
            case 2: return at(now.left, man);
            case 3: return at(now.names, man);
            case 4: return at(now.purse, man);
            case 5: return at(war.signs, man);
            default: return NONE;
        }
    }

    public int known(int man, int county) {
        if (!war.hasMan(man) || !war.hasCounty(county)) {
            return NONE;
        }
        return now.weeksToLetter(man, county);
    }

    // ---- ahead

    public int later(int man, int n, int what) {
        if (!war.hasMan(man) || n < 0 || n > weeksAhead() || what < 0 || what > 3) {
            return NONE;
        }
        ahead.copy(now);
        march.go(war, ahead, n);
        switch (what) {
            case 0: return at(ahead.is, man);
            case 1: return at(ahead.place, man);
            case 2: return at(ahead.names, man);
            default: return at(ahead.purse, man);
        }
    }

    public int caught(int man) {
        if (!war.hasMan(man)) {
            return NONE;
        }
        ahead.copy(now);
        int last = weeksAhead();
        for (int k = 0; k <= last; k++) {
            if (at(ahead.is, man) == IS_CAUGHT) {
                return k;
            }
            if (k < last) {
                march.go(war, ahead, 1);
            }
        }
        return NONE;
    }

    public int filled() {
        ahead.copy(now);
        int last = weeksAhead();
        for (int k = 0; k <= last; k++) {
            if (total(ahead.quota, war.counties) == 0) {
                return k;
            }
            if (k < last) {
                march.go(war, ahead, 1);
            }
        }
        return NONE;
    }

    public int round(int man, int k) {
        if (!war.hasMan(man) || k < 0 || k > 5 || at(now.is, man) != FREE) {
            return NONE;
        }
        if (!rounds.search(war, now, man)) {
            return NONE;
        }
        switch (k) {
            case 4: return rounds.bestGain;
            case 5: return rounds.bestComes;
            default: return k < rounds.bestLength ? at(rounds.best, k) : NONE;
        }
    }

    public int lured(int man, int county) {
        if (!war.hasMan(man) || !war.hasCounty(county)) {
            return NONE;
        }
        if (at(now.is, man) != FREE || at(now.place, man) == county) {
            return NONE;
        }
        if (war.distance(at(now.place, man), county) == NONE) {
            return NONE;
        }
        return march.leastLure(war, now, man, county);
    }

    public int best(int county, int n, int what) {
        if (!war.hasCounty(county) || n < 1 || n > MOST_BEST || n > weeksAhead() || what < 0 || what > 1) {
            return NONE;
        }
        int bestPay = 0;
        int least = MOST_QUOTA + 1;
        // Less than nothing of a quota can't be left, so the first 0 is best.
        for (int much = 0; much <= MOST_PAY && least > 0; much += PAY_STEP) {
            ahead.copy(now);
            put(ahead.pays, county, much);
            march.go(war, ahead, n);
            int left = at(ahead.quota, county);
            if (left < least) {
                least = left;
                bestPay = much;
            }
        }
        return what == 0 ? bestPay : least;
    }

    public int marks() {
        int bestBits = MOST_SIGN_BITS;
        for (int bits = 0; bits <= MOST_SIGN_BITS; bits++) {
            if (Integer.bitCount(bits) < Integer.bitCount(bestBits) && war.parts(bits)) {
                bestBits = bits;
            }
        }
        return bestBits;
    }

    public int staffed(int n) {
        if (n < 0 || n > MOST_STAFF_WEEKS) {
            return NONE;
        }
        int everyCounty = (1 << war.counties) - 1;
        int bestBits = everyCounty;
        for (int bits = 0; bits < everyCounty; bits++) {
            if (Integer.bitCount(bits) < Integer.bitCount(bestBits) && war.isNear(bits, n)) {
                bestBits = bits;
            }
        }
        return bestBits;
    }

    // ---- who it was

    public int see() {
        int rows = tape.length / 2;
        boolean fits = tape.length % 2 == 0 && rows >= 1 && rows <= MOST_SEEN;
        for (int row = 0; fits && row < rows; row++) {
            fits = tape.octetAt(2 * row) < MOST_SIGNS && tape.octetAt(2 * row + 1) <= 1;
        }
        if (!fits) {
            tape.length = 0;
            refuse(REFUSED_TOLD);
            return NONE;
        }
        for (int row = 0; row < rows; row++) {
            put(seenSign, row, tape.octetAt(2 * row));
            put(seenHas, row, tape.octetAt(2 * row + 1));
        }
        tape.length = 0;
        seen = rows;
        return seen;
    }

    public int who(int what) {
        int bits = seenBits();
        switch (what) {
            case 0: return bits;
            case 1: return tellingSign(bits);
            case 2: return mostLeft(bits, tellingSign(bits));
            default: return NONE;
        }
    }

    // ---- acts

    public int weeks(int n) {
        if (!canGo(n)) {
            refuse(REFUSED_WEEKS);
            return NONE;
        }
        acts.remember(now);
        return march.go(war, now, n);
    }

    public int chance(int n) {
        if (!canGo(n)) {
            refuse(REFUSED_WEEKS);
            return NONE;
        }
        acts.remember(now);
        int taken = 0;
        for (int k = 0; k < n; k++) {
            taken += guardsTake();
            march.go(war, now, 1);
        }
        return taken;
    }

    public boolean pay(int county, int much) {
        if (!war.hasCounty(county) || much < 0 || much > MOST_PAY || at(now.pays, county) == much) {
            refuse(REFUSED_ACT);
            return false;
        }
        acts.remember(now);
        put(now.pays, county, much);
        return true;
    }

    public boolean guard(int county, int much) {
        if (!war.hasCounty(county) || much < 0 || much > MOST_GUARD || at(now.guard, county) == much) {
            refuse(REFUSED_ACT);
            return false;
        }
        acts.remember(now);
        put(now.guard, county, much);
        return true;
    }

    public boolean tell(int man, int county) {
        if (!war.hasMan(man) || !war.hasCounty(county) || now.weeksToLetter(man, county) == 0) {
            refuse(REFUSED_ACT);
            return false;
        }
        acts.remember(now);
        now.send(man, county, now.week);
        return true;
    }

    public boolean undo() {
        if (!acts.takeBack(now)) {
            refuse(REFUSED_UNDO);
            return false;
        }
        return true;
    }

    public boolean seed(int seed) {
        if (seed < 0) {
            refuse(REFUSED_TOLD);
            return false;
        }
        this.seed = seed;
        return true;
    }

    public int kept(int k, int what) {
        if (k < 0 || k >= now.told) {
            return NONE;
        }
        return now.tellKept(k, what);
    }

    // ---- images, refusals

    public int image() {
        image.write(war, now);
        return image.length;
    }

    public int octet(int k) {
        if (k < 0 || k >= image.length) {
            return NONE;
        }
        return at(image.octets, k);
    }

    public boolean on() {
        ahead.start(war);
        boolean read = image.read(war, ahead);
        tape.length = 0;
        if (!read) {
            refuse(REFUSED_TOLD);
            return false;
        }
        now.copy(ahead);
        acts.forget();
        return true;
    }

    public int status(int what) {
        if (what < 0 || what >= REFUSED_KINDS) {
            return NONE;
        }
        return at(refused, what);
    }

    private void refuse(int kind) {
        put(refused, kind, at(refused, kind) + 1);
    }

    private int weeksAhead() {
        return Math.min(MOST_AHEAD, LAST_WEEK - now.week);
    }

    private boolean canGo(int n) {
        return n >= 1 && n <= MOST_AT_ONCE && n <= LAST_WEEK - now.week;
    }

    private int knownBits(int county) {
        int bits = 0;
        for (int man = 0; man < war.men; man++) {
            if (now.isKnown(war, man, county, now.week)) {
                bits |= 1 << man;
            }
        }
        return bits;
    }

    private int seenBits() {
        int bits = 0;
        for (int man = 0; man < war.men; man++) {
            boolean fits = true;
            for (int row = 0; row < seen; row++) {
                fits = fits && (at(war.signs, man) >> at(seenSign, row) & 1) == at(seenHas, row);
            }
            if (fits) {
                bits |= 1 << man;
            }
        }
        return bits;
    }

    private int mostLeft(int bits, int sign) {
        if (sign == NONE) {
            return NONE;
        }
        int have = 0;
        int lack = 0;
        for (int man = 0; man < war.men; man++) {
            if ((bits >> man & 1) == 1) {
                int has = at(war.signs, man) >> sign & 1;
                have += has;
                lack += 1 - has;
            }
        }
        return Math.max(have, lack);
    }

    private int tellingSign(int bits) {
        if (bits == 0) {
            return NONE;
        }
        int telling = 0;
        for (int sign = 1; sign < MOST_SIGNS; sign++) {
            if (mostLeft(bits, sign) < mostLeft(bits, telling)) {
                telling = sign;
            }
        }
        return telling;
    }

    private int guardsTake() {
        int taken = 0;
        for (int man = 0; man < war.men; man++) {
            if (at(now.is, man) == IN_TRAIN) {
                int county = at(now.place, man);
                if (draw(100) < 10 * at(now.guard, county)) {
                    put(now.is, man, AT_FRONT);
                    now.keep(man, county, KEPT_FRONT);
                    taken++;
                }
            }
        }
        return taken;
    }

    private int draw(int below) {
        seed = (int) ((1103515245L * seed + 12345L) & 0x7fffffffL);
        return below > 0 ? seed / 64 % below : 0;
    }

    private static int at(int[] row, int k) {
        return k >= 0 && k < row.length ? row[k] : 0;
    }

    private static void put(int[] row, int k, int value) {
        if (k >= 0 && k < row.length) {
            row[k] = value;
        }
    }

    private static int total(int[] row, int n) {
        int sum = 0;
        for (int k = 0; k < n && k < row.length; k++) {
            sum += row[k];
        }
        return sum;
    }

    private static int howMany(int[] row, int n, int value) {
        int count = 0;
        for (int k = 0; k < n && k < row.length; k++) {
            if (row[k] == value) {
                count++;
            }
        }
        return count;
    }

    private static int indexOf(int[] row, int n, int value) {
        for (int k = 0; k < n && k < row.length; k++) {
            if (row[k] == value) {
                return k;
            }
        }
        return NONE;
    }

    private static void copyRow(int[] from, int[] to) {
        for (int k = 0; k < from.length && k < to.length; k++) {
            to[k] = from[k];
        }
    }

    private static void fillRow(int[] row, int value) {
        for (int k = 0; k < row.length; k++) {
            row[k] = value;
        }
    }

    // A NAME is one number: six digits to the base 27, 1 .. 26 a letter, 0 behind it.
    private static int letterOf(int name, int k) {
        int rest = name;
        for (int behind = k + 1; behind < MOST_LETTERS; behind++) {
            rest /= 27;
        }
        return rest % 27;
    }

    private static final class Tape {
        private final int[] octets = new int[MOST_BYTES];
        int length = 0;

        boolean hasRoom(int more) {
            return length + more <= MOST_BYTES;
        }

        void addNumber(int number) {
            for (int shift = 24; shift >= 0; shift -= 8) {
                put(octets, length, number >>> shift & 255);
                length++;
            }
        }

        int octetAt(int k) {
            return k >= 0 && k < length && k < octets.length ? octets[k] : NONE;
        }
    }

    private static final class Scanner {
        private final Tape tape;
        private final int[] ownWords;
        private int next;
        int kind;
        int firstByte;
        // Where a FAULT of what is read is told: its first byte, but a 7th letter or a 5th digit itself.
        int place;
        int ownWord;
        int name;
        int value;

        Scanner(Tape tape) {
            this.tape = tape;
            ownWords = wordNumbers(OWN_WORDS);
        }

        private static int[] wordNumbers(String words) {
            int[] numbers = new int[OWN_COUNT];
            int count = 0;
            int number = 0;
            int length = 0;
            for (int k = 0; k < words.length(); k++) {
                char letter = words.charAt(k);
                if (letter == ' ') {
                    put(numbers, count, filledUp(number, length));
                    count++;
                    number = 0;
                    length = 0;
                } else {
                    number = 27 * number + (letter - 'a' + 1);
                    length++;
                }
            }
            return numbers;
        }

        private static int filledUp(int number, int length) {
            int name = number;
            for (int k = length; k < MOST_LETTERS; k++) {
                name *= 27;
            }
            return name;
        }

        void start() {
            next = 0;
            kind = READ_SIGN;
            advance();
        }

        void advance() {
            boolean needsBlank = kind == READ_WORD || kind == READ_NUMBER;
            int before = next;
            for (int k = 0; k < MOST_BYTES && isBlank(tape.octetAt(next)); k++) {
                next++;
            }
            boolean sideBySide = needsBlank && next == before;
            firstByte = next;
            place = next;
            ownWord = NONE;
            value = tape.octetAt(next);
            if (value == NONE) {
                kind = READ_END;
            } else if (!isLetter(value) && !isDigit(value)) {
                kind = READ_SIGN;
                next++;
            } else if (sideBySide) {
                kind = READ_WRONG;
            } else if (isLetter(value)) {
                readWord();
            } else {
                readNumber();
            }
        }

        private void readWord() {
            int number = 0;
            int length = 0;
            for (; length < MOST_LETTERS && isLetter(tape.octetAt(next)); length++) {
                number = 27 * number + (tape.octetAt(next) - 'a' + 1);
                next++;
            }
            if (isLetter(tape.octetAt(next))) {
                kind = READ_WRONG;
                place = next;
                return;
            }
            kind = READ_WORD;
            name = filledUp(number, length);
            ownWord = indexOf(ownWords, ownWords.length, name);
        }

        private void readNumber() {
            value = 0;
            for (int length = 0; length < MOST_DIGITS && isDigit(tape.octetAt(next)); length++) {
                value = 10 * value + (tape.octetAt(next) - '0');
                next++;
            }
            if (isDigit(tape.octetAt(next))) {
                kind = READ_WRONG;
                place = next;
                return;
            }
            kind = READ_NUMBER;
        }

        boolean isOwnWord(int word) {
            return kind == READ_WORD && ownWord == word;
        }

        boolean isName() {
            return kind == READ_WORD && ownWord == NONE;
        }

        boolean isSign(int sign) {
            return kind == READ_SIGN && value == sign;
        }

        private static boolean isBlank(int octet) {
            return octet == 10 || octet == 32;
        }

        private static boolean isLetter(int octet) {
            return octet >= 'a' && octet <= 'z';
        }

        private static boolean isDigit(int octet) {
            return octet >= '0' && octet <= '9';
        }
    }

    private static final class Reader {
        private final Scanner scanner;
        private War war;
        private Formula formula;
        private boolean inLikes;
        private int number;
        private int name;
        private int found;
        int faultKind;
        int faultPlace;

        Reader(Tape tape, War war) {
            scanner = new Scanner(tape);
            this.war = war;
            formula = war.jumps;
            faultPlace = NONE;
        }

        boolean readWar(War into) {
            war = into;
            war.clear();
            faultKind = 0;
            faultPlace = NONE;
            scanner.start();
            for (int k = 0; k <= MOST_STATEMENTS && scanner.kind != READ_END; k++) {
                if (!readStatement() || !takeSign(';')) {
                    return false;
                }
                war.statements++;
            }
            war.findWays();
            return true;
        }

        private boolean wrong(int kind) {
            return wrongAt(kind, scanner.place);
        }

        private boolean wrongAt(int kind, int place) {
            faultKind = kind;
            faultPlace = place;
            return false;
        }

        private boolean readStatement() {
            // The 81st is one too many whatever it is, even where it is no STATEMENT or has a 7th letter.
            if (war.statements >= MOST_STATEMENTS) {
                return wrongAt(FAULT_MANY, scanner.firstByte);
            }
            int word = scanner.kind == READ_WORD ? scanner.ownWord : NONE;
            if (!beginsStatement(word)) {
                return wrong(FAULT_TEXT);
            }
            if (isOneTooMany(word)) {
                return wrong(FAULT_MANY);
            }
            scanner.advance();
            inLikes = word == WORD_LIKES;
            formula = inLikes ? war.likes : war.jumps;
            switch (word) {
                case WORD_COUNTY: return readCounty();
                case WORD_RAIL: return readRail();
                case WORD_MAN: return readMan();
                case WORD_JUMPS: return readTest(0);
                case WORD_LIKES: return readSum(0);
                default: return readPost();
            }
        }

        private static boolean beginsStatement(int word) {
            switch (word) {
                case WORD_COUNTY:
                case WORD_RAIL:
                case WORD_MAN:
                case WORD_JUMPS:
                case WORD_LIKES:
                case WORD_POST: return true;
                default: return false;
            }
        }

        private boolean isOneTooMany(int word) {
            switch (word) {
                case WORD_COUNTY: return war.counties >= MOST_COUNTIES;
                case WORD_RAIL: return war.rails >= MOST_RAILS;
                case WORD_MAN: return war.men >= MOST_MEN;
                case WORD_JUMPS: return war.jumps.isTold();
                case WORD_LIKES: return war.likes.isTold();
                default: return false;
            }
        }

        private boolean readCounty() {
            if (!takeNewName()) {
                return false;
            }
            int which = war.counties;
            put(war.countyNames, which, name);
            if (!takeWord(WORD_QUOTA) || !takeNumber(0, MOST_QUOTA)) {
                return false;
            }
            put(war.quota, which, number);
            if (!takeWord(WORD_PAYS) || !takeNumber(0, MOST_PAY)) {
                return false;
            }
            put(war.pays, which, number);
            if (!takeWord(WORD_GUARD) || !takeNumber(0, MOST_GUARD)) {
                return false;
            }
            put(war.guard, which, number);
            war.counties++;
            return true;
        }

        private boolean readRail() {
            if (!takeCounty(NONE)) {
                return false;
            }
            int from = found;
            if (!takeWord(WORD_TO) || !takeCounty(from)) {
                return false;
            }
            int to = found;
            if (!takeWord(WORD_WEEKS) || !takeNumber(1, MOST_RAIL_WEEKS)) {
                return false;
            }
            war.addRail(from, to, number);
            return true;
        }

        private boolean readMan() {
            if (!takeNewName()) {
                return false;
            }
            int which = war.men;
            put(war.manNames, which, name);
            if (!takeWord(WORD_AT) || !takeCounty(NONE)) {
                return false;
            }
            put(war.manAt, which, found);
            if (!takeWord(WORD_SIGNS) || !takeNumber(0, MOST_SIGN_BITS)) {
                return false;
            }
            put(war.signs, which, number);
            war.men++;
            return true;
        }

        private boolean readPost() {
            if (!takeNumber(0, MOST_POST)) {
                return false;
            }
            war.post = number;
            return true;
        }

        // What is read is judged before the scanner goes on, so that the first FAULT along the text is told.
        private boolean takeWord(int word) {
            if (!scanner.isOwnWord(word)) {
                return wrong(FAULT_TEXT);
            }
            scanner.advance();
            return true;
        }

        private boolean takeSign(int sign) {
            if (!scanner.isSign(sign)) {
                return wrong(FAULT_TEXT);
            }
            scanner.advance();
            return true;
        }

        private boolean takeNumber(int least, int most) {
            if (scanner.kind != READ_NUMBER) {
                return wrong(FAULT_TEXT);
            }
            if (scanner.value < least || scanner.value > most) {
                return wrong(FAULT_NUMBER);
            }
            number = scanner.value;
            scanner.advance();
            return true;
        }

        private boolean takeNewName() {
            if (!scanner.isName()) {
                return wrong(FAULT_TEXT);
            }
            if (war.countyNamed(scanner.name) != NONE || war.manNamed(scanner.name) != NONE) {
                return wrong(FAULT_GIVEN);
            }
            name = scanner.name;
            scanner.advance();
            return true;
        }

        private boolean takeCounty(int railFrom) {
            if (!scanner.isName()) {
                return wrong(FAULT_TEXT);
            }
            found = war.countyNamed(scanner.name);
            if (found == NONE || railFrom != NONE && (found == railFrom || war.hasRail(railFrom, found))) {
                return wrong(FAULT_NAME);
            }
            scanner.advance();
            return true;
        }

        private boolean takeOpening(boolean stands, int open) {
            if (!stands) {
                return wrong(FAULT_TEXT);
            }
            if (open >= MOST_OPEN) {
                return wrong(FAULT_OPEN);
            }
            scanner.advance();
            return true;
        }

        private boolean readTest(int open) {
            if (!readBoth(open)) {
                return false;
            }
            for (int k = 0; k < MOST_BYTES && scanner.isOwnWord(WORD_OR); k++) {
                scanner.advance();
                if (!readBoth(open)) {
                    return false;
                }
                formula.add(STEP_OR);
            }
            return true;
        }

        private boolean readBoth(int open) {
            if (!readFact(open)) {
                return false;
            }
            for (int k = 0; k < MOST_BYTES && scanner.isOwnWord(WORD_AND); k++) {
                scanner.advance();
                if (!readFact(open)) {
                    return false;
                }
                formula.add(STEP_AND);
            }
            return true;
        }

        private boolean readFact(int open) {
            if (scanner.isOwnWord(WORD_NOT)) {
                if (!takeOpening(true, open) || !readFact(open + 1)) {
                    return false;
                }
                formula.add(STEP_NOT);
                return true;
            }
            if (scanner.isSign('[')) {
                return takeOpening(true, open) && readTest(open + 1) && takeSign(']');
            }
            if (scanner.isOwnWord(WORD_ALL)) {
                scanner.advance();
                formula.add(1);
                return true;
            }
            return readComparison(open);
        }

        private boolean readComparison(int open) {
            if (!readSum(open)) {
                return false;
            }
            int step = comparisonStep();
            if (step == 0) {
                return wrong(FAULT_TEXT);
            }
            scanner.advance();
            if (!readSum(open)) {
                return false;
            }
            formula.add(step);
            return true;
        }

        private int comparisonStep() {
            if (scanner.isSign('<')) {
                return STEP_BELOW;
            }
            if (scanner.isSign('>')) {
                return STEP_ABOVE;
            }
            return scanner.isSign('=') ? STEP_EQUAL : 0;
        }

        private boolean readSum(int open) {
            if (!readProduct(open)) {
                return false;
            }
            for (int k = 0; k < MOST_BYTES && (scanner.isSign('+') || scanner.isSign('-')); k++) {
                int step = scanner.isSign('+') ? STEP_ADD : STEP_LESS;
                scanner.advance();
                if (!readProduct(open)) {
                    return false;
                }
                formula.add(step);
            }
            return true;
        }

        private boolean readProduct(int open) {
            if (!readPart(open)) {
                return false;
            }
            for (int k = 0; k < MOST_BYTES && productStep() != 0; k++) {
                int step = productStep();
                scanner.advance();
                if (!readPart(open)) {
                    return false;
                }
                formula.add(step);
            }
            return true;
        }

        private int productStep() {
            if (scanner.isSign('*')) {
                return STEP_TIMES;
            }
            if (scanner.isSign('/')) {
                return STEP_BY;
            }
            return scanner.isSign('%') ? STEP_LEFT : 0;
        }

        private boolean readPart(int open) {
            if (scanner.kind == READ_NUMBER) {
                formula.add(scanner.value);
                scanner.advance();
                return true;
            }
            if (scanner.isSign('(')) {
                return takeOpening(true, open) && readSum(open + 1) && takeSign(')');
            }
            if (scanner.kind != READ_WORD) {
                return wrong(FAULT_TEXT);
            }
            switch (scanner.ownWord) {
                case WORD_MIN: return readTwo(open, STEP_MIN);
                case WORD_MAX: return readTwo(open, STEP_MAX);
                case WORD_IF: return readIf(open);
                default: return readAsked();
            }
        }

        private boolean readTwo(int open, int step) {
            scanner.advance();
            if (!takeOpening(scanner.isSign('('), open) || !readSum(open + 1)) {
                return false;
            }
            if (!takeSign(',') || !readSum(open + 1) || !takeSign(')')) {
                return false;
            }
            formula.add(step);
            return true;
        }

        private boolean readIf(int open) {
            scanner.advance();
            if (!takeOpening(scanner.isSign('('), open) || !readTest(open + 1)) {
                return false;
            }
            if (!takeSign(',') || !readSum(open + 1)) {
                return false;
            }
            if (!takeSign(',') || !readSum(open + 1) || !takeSign(')')) {
                return false;
            }
            formula.add(STEP_IF);
            return true;
        }

        private boolean readAsked() {
            int step = askedStep(scanner.ownWord);
            if (step == 0) {
                return wrong(FAULT_TEXT);
            }
            formula.add(step);
            scanner.advance();
            return true;
        }

        private int askedStep(int word) {
            switch (word) {
                case WORD_GUARD: return STEP_GUARD;
                case WORD_PAYS: return STEP_PAYS;
                case WORD_NAMES: return STEP_NAMES;
                case WORD_PURSE: return STEP_PURSE;
                case WORD_WEEK: return STEP_WEEK;
                case WORD_QUOTA: return inLikes ? STEP_QUOTA : 0;
                case WORD_FAR: return inLikes ? STEP_FAR : 0;
                default: return 0;
            }
        }
    }

    // A SUM or a TEST as steps, values ahead of what joins them.
    private static final class Formula {
        private final int[] steps = new int[MOST_BYTES];
        private int length = 0;

        void clear() {
            length = 0;
        }

        void add(int step) {
            put(steps, length, step);
            length++;
        }

        boolean isTold() {
            return length > 0;
        }
    }

    private static final class Reckoner {
        private final long[] pending = new long[MOST_PENDING];
        private int height;
        int guard;
        int pays;
        int names;
        int purse;
        int week;
        int quota;
        int far;

        long reckon(Formula formula) {
            height = 0;
            for (int k = 0; k < formula.length && k < formula.steps.length; k++) {
                int step = formula.steps[k];
                if (step >= STEP_LAST_PART) {
                    push(step >= 0 ? step : asked(step));
                } else if (step == STEP_NOT) {
                    push(1 - pop());
                } else if (step == STEP_IF) {
                    long otherwise = pop();
                    long then = pop();
                    push(pop() != 0 ? then : otherwise);
                } else {
                    long second = pop();
                    long first = pop();
                    long result = joined(step, first, second);
                    push(Math.max(-MOST_RESULT, Math.min(MOST_RESULT, result)));
                }
            }
            return pop();
        }

        private void push(long value) {
            if (height >= 0 && height < pending.length) {
                pending[height] = value;
                height++;
            }
        }

        private long pop() {
            if (height <= 0 || height > pending.length) {
                return 0;
            }
            height--;
            return pending[height];
        }

        private int asked(int step) {
            switch (step) {
                case STEP_GUARD: return guard;
                case STEP_PAYS: return pays;
                case STEP_NAMES: return names;
                case STEP_PURSE: return purse;
                case STEP_WEEK: return week;
                case STEP_QUOTA: return quota;
                default: return far;
            }
        }

        private static long joined(int step, long first, long second) {
            switch (step) {
                case STEP_ADD: return first + second;
                case STEP_LESS: return first - second;
                case STEP_TIMES: return first * second;
                case STEP_BY: return second == 0 ? 0 : Math.floorDiv(first, second);
                case STEP_LEFT: return second == 0 ? 0 : Math.floorMod(first, second);
                case STEP_MIN: return Math.min(first, second);
                case STEP_MAX: return Math.max(first, second);
                case STEP_BELOW: return first < second ? 1 : 0;
                case STEP_ABOVE: return first > second ? 1 : 0;
                case STEP_EQUAL: return first == second ? 1 : 0;
                case STEP_AND: return first & second;
                default: return first | second;
            }
        }
    }

    // What the text of a WAR tells.
    private static final class War {
        int statements;
        int counties;
        int rails;
        int men;
        int post = POST_UNTOLD;
        final int[] countyNames = new int[MOST_COUNTIES];
        final int[] quota = new int[MOST_COUNTIES];
        final int[] pays = new int[MOST_COUNTIES];
        final int[] guard = new int[MOST_COUNTIES];
        final int[] manNames = new int[MOST_MEN];
        final int[] manAt = new int[MOST_MEN];
        final int[] signs = new int[MOST_MEN];
        final Formula jumps = new Formula();
        final Formula likes = new Formula();
        private final int[] ways = new int[MOST_COUNTIES * MOST_COUNTIES];

        void clear() {
            statements = 0;
            counties = 0;
            rails = 0;
            men = 0;
            post = POST_UNTOLD;
            jumps.clear();
            likes.clear();
            fillRow(ways, NEVER);
        }

        boolean hasCounty(int county) {
            return county >= 0 && county < counties;
        }

        boolean hasMan(int man) {
            return man >= 0 && man < men;
        }

        int countyNamed(int name) {
            return indexOf(countyNames, counties, name);
        }

        int manNamed(int name) {
            return indexOf(manNames, men, name);
        }

        boolean hasRail(int from, int to) {
            return at(ways, from * MOST_COUNTIES + to) < NEVER;
        }

        void addRail(int from, int to, int weeks) {
            put(ways, from * MOST_COUNTIES + to, weeks);
            put(ways, to * MOST_COUNTIES + from, weeks);
            rails++;
        }

        void findWays() {
            for (int county = 0; county < counties; county++) {
                put(ways, county * MOST_COUNTIES + county, 0);
            }
            for (int by = 0; by < counties; by++) {
                for (int from = 0; from < counties; from++) {
                    for (int to = 0; to < counties; to++) {
                        int round = at(ways, from * MOST_COUNTIES + by) + at(ways, by * MOST_COUNTIES + to);
                        if (round < at(ways, from * MOST_COUNTIES + to)) {
                            put(ways, from * MOST_COUNTIES + to, round);
                        }
                    }
                }
            }
        }

        int distance(int from, int to) {
            if (!hasCounty(from) || !hasCounty(to)) {
                return NONE;
            }
            int weeks = at(ways, from * MOST_COUNTIES + to);
            return weeks < NEVER ? weeks : NONE;
        }

        boolean parts(int signBits) {
            for (int man = 0; man < men; man++) {
                for (int other = man + 1; other < men; other++) {
                    int unlike = at(signs, man) ^ at(signs, other);
                    if (unlike != 0 && (unlike & signBits) == 0) {
                        return false;
                    }
                }
            }
            return true;
        }

        boolean isNear(int countyBits, int weeks) {
            for (int county = 0; county < counties; county++) {
                boolean near = false;
                for (int from = 0; from < counties; from++) {
                    int far = distance(from, county);
                    near = near || (countyBits >> from & 1) == 1 && far != NONE && far <= weeks;
                }
                if (!near) {
                    return false;
                }
            }
            return true;
        }
    }

    // What is so in a WEEK, and what is KEPT.
    private static final class State {
        int week;
        final int[] quota = new int[MOST_COUNTIES];
        final int[] pays = new int[MOST_COUNTIES];
        final int[] guard = new int[MOST_COUNTIES];
        final int[] place = new int[MOST_MEN];
        final int[] is = new int[MOST_MEN];
        final int[] left = new int[MOST_MEN];
        final int[] names = new int[MOST_MEN];
        final int[] purse = new int[MOST_MEN];
        // The WEEK in which the first LETTER of a MAN is in a COUNTY, or NEVER.
        private final int[] letters = new int[MOST_MEN * MOST_COUNTIES];
        // A ring; each entry is one number, see keep().
        private final int[] ring = new int[MOST_KEPT];
        private int oldest;
        int told;

        void start(War war) {
            week = 0;
            copyRow(war.quota, quota);
            copyRow(war.pays, pays);
            copyRow(war.guard, guard);
            copyRow(war.manAt, place);
            fillRow(is, FREE);
            fillRow(left, 0);
            fillRow(names, 0);
            fillRow(purse, 0);
            fillRow(letters, NEVER);
            oldest = 0;
            told = 0;
        }

        void copy(State other) {
            week = other.week;
            copyRow(other.quota, quota);
            copyRow(other.pays, pays);
            copyRow(other.guard, guard);
            copyRow(other.place, place);
            copyRow(other.is, is);
            copyRow(other.left, left);
            copyRow(other.names, names);
            copyRow(other.purse, purse);
            copyRow(other.letters, letters);
            copyRow(other.ring, ring);
            oldest = other.oldest;
            told = other.told;
        }

        int weeksToLetter(int man, int county) {
            int there = at(letters, man * MOST_COUNTIES + county);
            return there < NEVER ? Math.max(0, there - week) : NONE;
        }

        void send(int man, int county, int there) {
            if (there < at(letters, man * MOST_COUNTIES + county)) {
                put(letters, man * MOST_COUNTIES + county, there);
            }
        }

        boolean isKnown(War war, int man, int county, int when) {
            for (int other = 0; other < war.men; other++) {
                boolean alike = at(war.signs, other) == at(war.signs, man);
                if (alike && at(letters, other * MOST_COUNTIES + county) <= when) {
                    return true;
                }
            }
            return false;
        }

        void keep(int man, int county, int what) {
            int entry = ((week * 10 + man) * 10 + county) * 10 + what;
            put(ring, (oldest + told) % MOST_KEPT, entry);
            if (told < MOST_KEPT) {
                told++;
            } else {
                oldest = (oldest + 1) % MOST_KEPT;
            }
        }

        int tellKept(int k, int what) {
            int entry = at(ring, (oldest + k) % MOST_KEPT);
            switch (what) {
                case 0: return entry / 1000;
                case 1: return entry / 100 % 10;
                case 2: return entry / 10 % 10;
                case 3: return entry % 10;
                default: return NONE;
            }
        }
    }

    private static final class March {
        private final Reckoner reckoner = new Reckoner();

        // Answers how often one ENLISTED.
        int go(War war, State state, int weeks) {
            int enlisted = 0;
            for (int k = 0; k < weeks; k++) {
                for (int man = 0; man < war.men; man++) {
                    int is = at(state.is, man);
                    if (is == ON_ROAD) {
                        walk(state, man);
                    } else if (is == IN_TRAIN) {
                        ride(war, state, man);
                    } else if (is == FREE) {
                        enlisted += meet(war, state, man);
                    }
                }
                state.week = Math.min(LAST_WEEK, state.week + 1);
            }
            return enlisted;
        }

        private void walk(State state, int man) {
            int left = Math.max(0, at(state.left, man) - 1);
            put(state.left, man, left);
            if (left == 0) {
                put(state.is, man, FREE);
            }
        }

        private int meet(War war, State state, int man) {
            int county = at(state.place, man);
            if (state.isKnown(war, man, county, state.week)) {
                put(state.is, man, IS_CAUGHT);
                state.keep(man, county, KEPT_CAUGHT);
                return 0;
            }
            int quota = at(state.quota, county);
            if (quota == 0) {
                goOn(war, state, man);
                return 0;
            }
            put(state.quota, county, quota - 1);
            put(state.purse, man, Math.min(MOST_PURSE, at(state.purse, man) + at(state.pays, county)));
            put(state.names, man, Math.min(MOST_NAMES, at(state.names, man) + 1));
            put(state.is, man, IN_TRAIN);
            state.keep(man, county, KEPT_ENLISTS);
            return 1;
        }

        private void ride(War war, State state, int man) {
            int county = at(state.place, man);
            if (!jumps(war, state, man, county)) {
                put(state.is, man, AT_FRONT);
                state.keep(man, county, KEPT_FRONT);
                return;
            }
            for (int to = 0; to < war.counties; to++) {
                int far = war.distance(county, to);
                if (far != NONE) {
                    state.send(man, to, state.week + far + war.post);
                }
            }
            state.keep(man, county, KEPT_JUMPS);
            goOn(war, state, man);
        }

        private boolean jumps(War war, State state, int man, int county) {
            if (!war.jumps.isTold()) {
                return true;
            }
            lookAt(state, man, county);
            return reckoner.reckon(war.jumps) != 0;
        }

        private void lookAt(State state, int man, int county) {
            reckoner.guard = at(state.guard, county);
            reckoner.pays = at(state.pays, county);
            reckoner.quota = at(state.quota, county);
            reckoner.names = at(state.names, man);
            reckoner.purse = at(state.purse, man);
            reckoner.week = state.week;
            reckoner.far = 0;
        }

        private void goOn(War war, State state, int man) {
            int from = at(state.place, man);
            int best = NONE;
            long most = 0;
            for (int to = 0; to < war.counties; to++) {
                if (to != from && war.distance(from, to) != NONE) {
                    long liking = liking(war, state, man, to, at(state.pays, to));
                    if (best == NONE || liking > most) {
                        best = to;
                        most = liking;
                    }
                }
            }
            if (best == NONE) {
                put(state.is, man, FREE);
                return;
            }
            put(state.is, man, ON_ROAD);
            put(state.left, man, war.distance(from, best));
            put(state.place, man, best);
        }

        private long liking(War war, State state, int man, int to, int pays) {
            if (!war.likes.isTold()) {
                return pays;
            }
            lookAt(state, man, to);
            reckoner.pays = pays;
            reckoner.far = war.distance(at(state.place, man), to);
            return reckoner.reckon(war.likes);
        }

        int leastLure(War war, State state, int man, int county) {
            int from = at(state.place, man);
            long enough = -MOST_RESULT;
            for (int to = 0; to < war.counties; to++) {
                if (to != from && to != county && war.distance(from, to) != NONE) {
                    long liking = liking(war, state, man, to, at(state.pays, to));
                    // Of like ones the first is chosen, so one ahead must be surpassed.
                    enough = Math.max(enough, to < county ? liking + 1 : liking);
                }
            }
            for (int pays = 0; pays <= MOST_PAY; pays++) {
                if (liking(war, state, man, county, pays) >= enough) {
                    return pays;
                }
            }
            return NONE;
        }
    }

    private static final class Rounds {
        final int[] best = new int[MOST_ROUND];
        int bestLength;
        int bestGain;
        int bestComes;
        private final int[] row = new int[MOST_ROUND];
        private final int[] comes = new int[MOST_ROUND];
        private War war;
        private State state;
        private int man;

        Rounds(War war, State state) {
            this.war = war;
            this.state = state;
        }

        boolean search(War war, State state, int man) {
            this.war = war;
            this.state = state;
            this.man = man;
            bestLength = 0;
            bestGain = 0;
            bestComes = 0;
            extend(0, 0);
            return bestLength > 0;
        }

        // The rows come shorter ones ahead of those that go on from them, else by their COUNTIES.
        private void extend(int length, int gain) {
            if (length >= MOST_ROUND) {
                return;
            }
            for (int county = 0; county < war.counties; county++) {
                int when = comesAt(length, county);
                if (when != NONE && canEnlist(length, county, when)) {
                    put(row, length, county);
                    put(comes, length, when);
                    int got = gain + at(state.pays, county);
                    compare(length + 1, got, when);
                    extend(length + 1, got);
                }
            }
        }

        private int comesAt(int length, int county) {
            if (length == 0) {
                return war.distance(at(state.place, man), county);
            }
            int far = war.distance(at(row, length - 1), county);
            return far == NONE ? NONE : at(comes, length - 1) + 1 + far;
        }

        private boolean canEnlist(int length, int county, int when) {
            if (at(state.quota, county) == 0 || state.isKnown(war, man, county, state.week + when)) {
                return false;
            }
            for (int k = 0; k < length; k++) {
                int from = at(row, k);
                if (from == county || at(comes, k) + 1 + war.distance(from, county) + war.post <= when) {
                    return false;
                }
            }
            return true;
        }

        private void compare(int length, int gain, int when) {
            if (bestLength > 0 && !isBetter(length, gain, when)) {
                return;
            }
            bestLength = length;
            bestGain = gain;
            bestComes = when;
            copyRow(row, best);
        }

        private boolean isBetter(int length, int gain, int when) {
            if (gain != bestGain) {
                return gain > bestGain;
            }
            if (when != bestComes) {
                return when < bestComes;
            }
            return length < bestLength;
        }
    }

    private static final class Acts {
        private final State[] ahead = new State[MOST_ACTS];
        private int next = 0;
        int count = 0;

        Acts() {
            for (int k = 0; k < ahead.length; k++) {
                ahead[k] = new State();
            }
        }

        void forget() {
            count = 0;
        }

        void remember(State state) {
            if (next >= 0 && next < ahead.length && ahead[next] != null) {
                ahead[next].copy(state);
            }
            next = (next + 1) % MOST_ACTS;
            count = Math.min(MOST_ACTS, count + 1);
        }

        boolean takeBack(State state) {
            if (count == 0) {
                return false;
            }
            next = (next + MOST_ACTS - 1) % MOST_ACTS;
            count--;
            if (next >= 0 && next < ahead.length && ahead[next] != null) {
                state.copy(ahead[next]);
            }
            return true;
        }
    }

    private static final class Image {
        private static final int MOST = 3 + 4 * MOST_COUNTIES + MOST_MEN * (6 + MOST_COUNTIES);
        final int[] octets = new int[MOST];
        int length = 0;
        private final Tape tape;
        private int next;
        private boolean fits;

        Image(Tape tape) {
            this.tape = tape;
        }

        void write(War war, State state) {
            length = 0;
            addTwo(state.week);
            for (int county = 0; county < war.counties; county++) {
                add(at(state.quota, county));
                addTwo(at(state.pays, county));
                add(at(state.guard, county));
            }
            for (int man = 0; man < war.men; man++) {
                add(at(state.place, man));
                add(at(state.is, man));
                add(at(state.left, man));
                add(at(state.names, man));
                addTwo(at(state.purse, man));
                for (int county = 0; county < war.counties; county++) {
                    add(Math.min(255, state.weeksToLetter(man, county) + 1));
                }
            }
            int sum = 181;
            for (int k = 0; k < length; k++) {
                sum = (5 * sum + at(octets, k)) % 251;
            }
            add(sum);
        }

        private void add(int octet) {
            put(octets, length, octet);
            length++;
        }

        private void addTwo(int number) {
            add(number / 256);
            add(number % 256);
        }

        // The state is one of the WAR's first; it is of use only when all fits.
        boolean read(War war, State state) {
            next = 0;
            fits = tape.length == 3 + 4 * war.counties + war.men * (6 + war.counties) && sumFits();
            state.week = takeTwo(LAST_WEEK);
            for (int county = 0; county < war.counties; county++) {
                put(state.quota, county, take(at(war.quota, county)));
                put(state.pays, county, takeTwo(MOST_PAY));
                put(state.guard, county, take(MOST_GUARD));
            }
            for (int man = 0; man < war.men; man++) {
                readMan(war, state, man);
            }
            return fits;
        }

        private void readMan(War war, State state, int man) {
            put(state.place, man, take(war.counties - 1));
            int is = take(AT_FRONT);
            int left = take(is == ON_ROAD ? MOST_WEEKS_LEFT : 0);
            fits = fits && (left > 0) == (is == ON_ROAD);
            put(state.is, man, is);
            put(state.left, man, left);
            put(state.names, man, take(MOST_NAMES));
            put(state.purse, man, takeTwo(MOST_PURSE));
            for (int county = 0; county < war.counties; county++) {
                int letter = take(255);
                if (letter > 0) {
                    state.send(man, county, state.week + letter - 1);
                }
            }
        }

        private boolean sumFits() {
            int sum = 181;
            for (int k = 0; k < tape.length - 1; k++) {
                sum = (5 * sum + tape.octetAt(k)) % 251;
            }
            return sum == tape.octetAt(tape.length - 1);
        }

        private int take(int most) {
            return judged(nextOctet(), most);
        }

        private int takeTwo(int most) {
            int high = nextOctet();
            return judged(256 * high + nextOctet(), most);
        }

        private int nextOctet() {
            int octet = tape.octetAt(next);
            next++;
            return octet;
        }

        private int judged(int value, int most) {
            if (value < 0 || value > most) {
                fits = false;
                return 0;
            }
            return value;
        }
    }
}
