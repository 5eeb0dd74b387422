import java.util.Arrays;

/**
 * A counting house that is kept by texts. The document (../shared/DOC.md) numbers what each call
 * promises; words in capitals in the comments are its terms.
 */
public final class CrownTable {
    public static final int BAD = -1, NOT = -2, FULL = -3;

    // What stands for BAD in the calls where -1 is an answer of its own.
    private static final int BAD_HERE = -2;
    private static final int NONE = -1;

    private static final int PERSONS = 16;
    private static final int SHIRES = 8;
    private static final int TEXTS = 10;
    private static final int TAPE_BYTES = 800;
    private static final int STATEMENTS = 40;
    private static final int NESTINGS = 15;
    private static final int FORCES = 40;
    private static final int DEBTS = 400;
    private static final int LINES = 4000;
    private static final int STICKS = 2000;
    private static final int COLUMNS = 6;
    private static final int LAST_TERM = 1000;
    private static final int MOST_FARM = 100000;
    private static final int MOST_SUM = 1000000;
    private static final int MOST_COINS = 1000000;
    private static final int MOST_TRIED = 10000000;

    private static final int KIND_FARM = 0, KIND_FINE = 1, KIND_PLEDGED = 3;

    // The columns of a DEBT are in the order in which about() tells them.
    private static final int DEBT_PERSON = 0, DEBT_KIND = 1, DEBT_SUM = 2, DEBT_LEFT = 3;
    private static final int DEBT_MADE = 4, DEBT_PLEDGE = 5, DEBT_PARDONED = 6, DEBT_COLUMNS = 7;

    // The columns of a LINE are in the order in which line() tells them.
    private static final int LINE_TERM = 0, LINE_PERSON = 1, LINE_DEBT = 2, LINE_ACT = 3;
    private static final int LINE_PAID = 4, LINE_STATEMENT = 5, LINE_TEXT = 6, LINE_STICK = 7;
    private static final int LINE_COLUMNS = 8;

    private static final int FORCE_TEXT = 0, FORCE_TERM = 1, FORCE_COLUMNS = 2;

    // Each WORD takes eight places; its number is its place divided by eight, so an ACT's number
    // is that by which line() tells it.
    private static final String WORDS =
        "pay     part    wait    quit    call    hold    if      then    and     or      not     owed    all     age     kind    coins   term    year    held    paid    pledged ";
    private static final int WORD_PLACES = 8;
    private static final int PAY = 0, PART = 1, WAIT = 2, QUIT = 3, CALL = 4, HOLD = 5;
    private static final int IF = 6, THEN = 7, AND = 8, OR = 9, INVERT = 10;
    private static final int OWED = 11, ALL = 12, AGE = 13, KIND = 14, COINS = 15, TERM = 16;
    private static final int YEAR = 17, HELD = 18, PAID = 19, PLEDGED = 20;

    // Beside the WORDS: a SIGN is told by its own byte, which is above all of these.
    private static final int TAPE_END = -1, STRANGE = -2, NUMBER = 30;

    private final Tape tape = new Tape();
    private final Reader reader = new Reader(tape);
    private final Weigher weigher = new Weigher();
    private final Text[] texts = new Text[TEXTS];
    private int textsRead;
    private final Rows forces = new Rows(FORCE_COLUMNS, FORCES);

    private final long[] credits = new long[PERSONS];
    private final boolean[] held = new boolean[PERSONS];
    private final int[] cameAt = new int[PERSONS];
    private final int[] farms = new int[SHIRES];
    private final int[] sheriffs = new int[SHIRES];
    private final Rows debts = new Rows(DEBT_COLUMNS, DEBTS);

    private final Rows roll = new Rows(LINE_COLUMNS, LINES);
    private final Rows sticks = new Rows(1, STICKS);
    private final Cloth table = new Cloth();
    private int now;
    private long chest;
    private long brought;

    public CrownTable() {
        Arrays.fill(cameAt, NONE);
        Arrays.fill(sheriffs, NONE);
    }

    // ---- texts

    public int feed(int a, int b, int c, int d, int e) {
        if (!tape.hasRoom(20)) {
            return FULL;
        }
        tape.addFour(a);
        tape.addFour(b);
        tape.addFour(c);
        tape.addFour(d);
        tape.addFour(e);
        return tape.length;
    }

    public int end(int n) {
        if (n < 0 || n > tape.length) {
            return BAD;
        }
        tape.length = n;
        return n;
    }

    public int text() {
        if (textsRead >= TEXTS) {
            return FULL;
        }
        boolean right = reader.readTape();
        tape.length = 0;
        if (!right) {
            return -100 - reader.start;
        }
        texts[textsRead] = reader.lastText();
        return textsRead++;
    }

    public int statements(int text) {
        Text told = textOf(text);
        return told == null ? BAD : told.acts.length;
    }

    public int force(int text, int term) {
        if (textOf(text) == null || term < now || term > LAST_TERM) {
            return BAD;
        }
        int row = forces.add();
        if (row < 0) {
            return FULL;
        }
        forces.set(row, FORCE_TEXT, text);
        forces.set(row, FORCE_TERM, term);
        return 1;
    }

    public int inForce(int term) {
        return term < 0 || term > LAST_TERM ? BAD : textInForce(term);
    }

    public int would(int text, int debt, int coins) {
        Text told = textOf(text);
        if (told == null || !isOwed(debt) || coins < 0 || coins > MOST_TRIED) {
            return BAD;
        }
        tellWeigher(debt, leftOf(debts.get(debt, DEBT_PERSON)), coins, 0);
        int statement = weigher.firstHeld(told);
        return statement < 0 ? NOT : statement;
    }

    private Text textOf(int text) {
        return text < 0 || text >= textsRead || text >= texts.length ? null : texts[text];
    }

    private int textInForce(int term) {
        for (int row = forces.size - 1; row >= 0; row--) {
            if (forces.get(row, FORCE_TERM) <= term) {
                return forces.get(row, FORCE_TEXT);
            }
        }
        return NONE;
    }

    private void tellWeigher(int debt, long all, long coins, long paid) {
        weigher.tell(OWED, debts.get(debt, DEBT_LEFT));
        weigher.tell(ALL, all);
        weigher.tell(AGE, now - debts.get(debt, DEBT_MADE));
        weigher.tell(KIND, debts.get(debt, DEBT_KIND));
        weigher.tell(COINS, coins);
        weigher.tell(TERM, now);
        weigher.tell(YEAR, now / 2);
        weigher.tell(HELD, isHeld(debts.get(debt, DEBT_PERSON)) ? 1 : 0);
        weigher.tell(PAID, paid);
        weigher.tell(PLEDGED, debts.get(debt, DEBT_PLEDGE) == NONE ? 0 : 1);
    }

    // ---- debts

    public int shire(int shire, int farm, int sheriff) {
        if (shire < 0 || shire >= SHIRES || farm < 0 || farm > MOST_FARM) {
            return BAD;
        }
        if (sheriff != NONE && !isPerson(sheriff)) {
            return BAD;
        }
        farms[shire] = farm;
        sheriffs[shire] = sheriff;
        return 1;
    }

    public int debt(int person, int kind, int sum, int pledge) {
        if (!isPerson(person) || kind < KIND_FINE || kind > KIND_PLEDGED || !isSum(sum)) {
            return BAD;
        }
        boolean pledgeIsRight = kind == KIND_PLEDGED ? isPerson(pledge) && pledge != person : pledge == NONE;
        if (!pledgeIsRight) {
            return BAD;
        }
        return debts.hasRoom(1) ? addDebt(person, kind, sum, pledge) : FULL;
    }

    public int term() {
        if (now >= LAST_TERM) {
            return BAD;
        }
        boolean farmsFallDue = (now + 1) % 2 == 0;
        if (farmsFallDue && !debts.hasRoom(shiresOwing())) {
            return FULL;
        }
        now++;
        if (farmsFallDue) {
            addFarmDebts();
        }
        return now;
    }

    public int come(int person, int coins) {
        if (!isPerson(person) || coins < 0 || coins > MOST_COINS) {
            return BAD;
        }
        if (cameAt[person] == now) {
            return NOT;
        }
        int toAsk = owedDebtsOf(person);
        if (!roll.hasRoom(toAsk) || !sticks.hasRoom(toAsk)) {
            return FULL;
        }
        cameAt[person] = now;
        brought += coins;
        long carried = credits[person] + coins;
        credits[person] = carried - askAll(person, carried);
        return toAsk;
    }

    public int free(int person) {
        if (!isPerson(person)) {
            return BAD;
        }
        int freed = held[person] ? 1 : 0;
        held[person] = false;
        return freed;
    }

    public int heir(int from, int to) {
        if (!isPerson(from) || !isPerson(to) || from == to) {
            return BAD;
        }
        int moved = 0;
        for (int debt = 0; debt < debts.size; debt++) {
            if (isOwedBy(debt, from)) {
                moveDebt(debt, to);
                moved++;
            }
        }
        credits[to] += credits[from];
        credits[from] = 0;
        return moved;
    }

    public int about(int debt, int what) {
        return debts.has(debt, what) ? debts.get(debt, what) : BAD_HERE;
    }

    public long owe(int person, int what) {
        if (!isPerson(person)) {
            return BAD;
        }
        switch (what) {
            case 0: return leftOf(person);
            case 1: return credits[person];
            case 2: return held[person] ? 1 : 0;
            case 3: return owedDebtsOf(person);
            case 4: return cameAt[person] == now ? 1 : 0;
            default: return BAD;
        }
    }

    private static boolean isPerson(int person) {
        return person >= 0 && person < PERSONS;
    }

    private static boolean isSum(int sum) {
        return sum >= 1 && sum <= MOST_SUM;
    }

    private boolean isHeld(int person) {
        return isPerson(person) && held[person];
    }

    private boolean isOwed(int debt) {
        return debts.has(debt, DEBT_LEFT) && debts.get(debt, DEBT_LEFT) > 0;
    }

    private boolean isOwedBy(int debt, int person) {
        return isOwed(debt) && debts.get(debt, DEBT_PERSON) == person;
    }

    private long leftOf(int person) {
        long left = 0;
        for (int debt = 0; debt < debts.size; debt++) {
            if (isOwedBy(debt, person)) {
                left += debts.get(debt, DEBT_LEFT);
            }
        }
        return left;
    }

    private int owedDebtsOf(int person) {
        int owed = 0;
        for (int debt = 0; debt < debts.size; debt++) {
            if (isOwedBy(debt, person)) {
                owed++;
            }
        }
        return owed;
    }

    private int addDebt(int person, int kind, int sum, int pledge) {
        int debt = debts.add();
        debts.set(debt, DEBT_PERSON, person);
        debts.set(debt, DEBT_KIND, kind);
        debts.set(debt, DEBT_SUM, sum);
        debts.set(debt, DEBT_LEFT, sum);
        debts.set(debt, DEBT_MADE, now);
        debts.set(debt, DEBT_PLEDGE, pledge);
        return debt;
    }

    private int shiresOwing() {
        int owing = 0;
        for (int shire = 0; shire < SHIRES; shire++) {
            if (farms[shire] > 0 && sheriffs[shire] != NONE) {
                owing++;
            }
        }
        return owing;
    }

    private void addFarmDebts() {
        for (int shire = 0; shire < SHIRES; shire++) {
            if (farms[shire] > 0 && sheriffs[shire] != NONE) {
                addDebt(sheriffs[shire], KIND_FARM, farms[shire], NONE);
            }
        }
    }

    /** Nobody is the pledge of their own DEBT, so a new person that was its PLEDGE is it no more. */
    private void moveDebt(int debt, int to) {
        debts.set(debt, DEBT_PERSON, to);
        if (debts.get(debt, DEBT_PLEDGE) == to) {
            debts.set(debt, DEBT_PLEDGE, NONE);
        }
    }

    /** Asks each OWED DEBT of a person who came, and tells how much was paid in all. */
    private long askAll(int person, long carried) {
        int text = textInForce(now);
        long all = leftOf(person);
        long paid = 0;
        for (int debt = 0; debt < debts.size; debt++) {
            if (isOwedBy(debt, person)) {
                int before = debts.get(debt, DEBT_LEFT);
                long coins = carried - paid;
                tellWeigher(debt, all, coins, paid);
                paid += askDebt(debt, person, text, coins);
                all -= before;
                if (isOwedBy(debt, person)) {
                    all += debts.get(debt, DEBT_LEFT);
                }
            }
        }
        return paid;
    }

    /** Asks one DEBT, of which the weigher has been told, and tells what is PAID of it. */
    private int askDebt(int debt, int person, int text, long coins) {
        Text told = textOf(text);
        int statement = told == null ? NONE : weigher.firstHeld(told);
        int act = told == null ? WAIT : told.actOf(statement);
        int share = told == null ? 0 : told.shareOf(statement);
        int paid = (int) Math.min(debts.get(debt, DEBT_LEFT) * share / 100, coins);
        int stick = paid > 0 ? splitStick(paid) : NONE;
        writeLine(person, debt, act, paid);
        int line = roll.size - 1;
        roll.set(line, LINE_STATEMENT, statement);
        roll.set(line, LINE_TEXT, text);
        roll.set(line, LINE_STICK, stick);
        doAct(act, debt, person, paid);
        return paid;
    }

    private void doAct(int act, int debt, int person, int paid) {
        int left = debts.get(debt, DEBT_LEFT);
        int pledge = debts.get(debt, DEBT_PLEDGE);
        chest += paid;
        debts.set(debt, DEBT_LEFT, left - paid);
        if (act == QUIT) {
            debts.set(debt, DEBT_PARDONED, left);
            debts.set(debt, DEBT_LEFT, 0);
        } else if (act == CALL && pledge != NONE && pledge != person) {
            moveDebt(debt, pledge);
        } else if (act == HOLD && isPerson(person)) {
            held[person] = true;
        }
    }

    private int splitStick(int sum) {
        int stick = sticks.add();
        sticks.set(stick, 0, sum);
        return stick;
    }

    private void writeLine(int person, int debt, int act, int paid) {
        int line = roll.add();
        roll.set(line, LINE_TERM, now);
        roll.set(line, LINE_PERSON, person);
        roll.set(line, LINE_DEBT, debt);
        roll.set(line, LINE_ACT, act);
        roll.set(line, LINE_PAID, paid);
    }

    // ---- the roll

    public int line(int i, int what) {
        return roll.has(i, what) ? roll.get(i, what) : BAD_HERE;
    }

    public int as(int debt, int term) {
        if (!debts.has(debt, DEBT_MADE) || term < 0 || term > now) {
            return BAD_HERE;
        }
        if (debts.get(debt, DEBT_MADE) > term) {
            return NONE;
        }
        int left = debts.get(debt, DEBT_SUM);
        for (int line = 0; line < roll.size && roll.get(line, LINE_TERM) <= term; line++) {
            if (roll.get(line, LINE_DEBT) == debt) {
                left = roll.get(line, LINE_ACT) == QUIT ? 0 : left - roll.get(line, LINE_PAID);
            }
        }
        return left;
    }

    public int stick(int stick, int what) {
        if (!sticks.has(stick, 0) || what < -1 || what >= COLUMNS) {
            return BAD;
        }
        int sum = sticks.get(stick, 0);
        return what < 0 ? sum : Cloth.notches(sum, what);
    }

    public int fits(int stick, int sum) {
        if (!sticks.has(stick, 0) || sum < 0 || sum > MOST_TRIED) {
            return BAD;
        }
        int stock = sticks.get(stick, 0);
        for (int column = 0; column < COLUMNS; column++) {
            if (Cloth.notches(stock, column) != Cloth.notches(sum, column)) {
                return column;
            }
        }
        return COLUMNS;
    }

    // ---- the cloth

    public int lay(int sum) {
        return isSum(sum) ? table.layDown(sum) : BAD;
    }

    public int take(int sum) {
        if (!isSum(sum)) {
            return BAD;
        }
        return sum > table.lies() ? NOT : table.takeUp(sum);
    }

    public int cloth(int column) {
        return column < 0 || column >= COLUMNS ? BAD : table.counters[column];
    }

    public long sum(int what) {
        switch (what) {
            case 0: return table.lies();
            case 1: return chest;
            case 2: return allCredits();
            case 3: return debts.total(DEBT_LEFT);
            case 4: return debts.total(DEBT_PARDONED);
            case 5: return debts.total(DEBT_SUM);
            case 6: return brought;
            default: return BAD;
        }
    }

    public int count(int what) {
        switch (what) {
            case 0: return debts.size;
            case 1: return roll.size;
            case 2: return sticks.size;
            case 3: return textsRead;
            case 4: return now;
            case 5: return tape.length;
            default: return BAD;
        }
    }

    private long allCredits() {
        long all = 0;
        for (int person = 0; person < PERSONS; person++) {
            all += credits[person];
        }
        return all;
    }

    /**
     * Rows of whole numbers, which are numbered as they come. They begin with room for a few, as
     * most houses stay small and all of a run's houses share one room.
     */
    private static final class Rows {
        private static final int FIRST_ROOM = 16;
        private final int width;
        private final int most;
        private int[] cells;
        private int size;

        private Rows(int width, int most) {
            this.width = Math.max(width, 1);
            this.most = most;
            this.cells = new int[this.width * FIRST_ROOM];
        }

        private boolean hasRoom(int more) {
            return size + more <= most;
        }

        private boolean has(int row, int column) {
            return row >= 0 && row < size && column >= 0 && column < width;
        }

        /** A new row of zeros: its number, or NONE if there is no room. */
        private int add() {
            if (!hasRoom(1)) {
                return NONE;
            }
            if ((size + 1) * width > cells.length) {
                cells = Arrays.copyOf(cells, cells.length * 2);
            }
            return size++;
        }

        private int get(int row, int column) {
            return has(row, column) ? cells[row * width + column] : 0;
        }

        private void set(int row, int column, int value) {
            if (has(row, column)) {
                cells[row * width + column] = value;
            }
        }

        private long total(int column) {
            long total = 0;
            for (int row = 0; row < size; row++) {
                total += get(row, column);
            }
            return total;
        }
    }

    /** THE TAPE. */
    private static final class Tape {
        private final byte[] bytes = new byte[TAPE_BYTES];
        private int length;

        private boolean hasRoom(int more) {
            return length + more <= TAPE_BYTES;
        }

        private void addFour(int number) {
            for (int shift = 24; shift >= 0; shift -= 8) {
                if (hasRoom(1)) {
                    bytes[length] = (byte) (number >>> shift);
                    length++;
                }
            }
        }

        /** The byte at a place, as 0 .. 255; TAPE_END where there is none. */
        private int byteAt(int place) {
            return place < 0 || place >= length || place >= TAPE_BYTES ? TAPE_END : bytes[place] & 255;
        }
    }

    /**
     * A TEXT that is right. The TEST of a STATEMENT is code in the order of its doing, a whole
     * number for each step: a NUMBER is itself, all else is told by its token, negated. A
     * STATEMENT without a TEST has no code.
     */
    private static final class Text {
        private final int[] acts;
        private final int[] shares;
        private final int[] starts;
        private final int[] code;

        private Text(int[] acts, int[] shares, int[] starts, int[] code) {
            this.acts = acts;
            this.shares = shares;
            this.starts = starts;
            this.code = code;
        }

        /** What is done by a STATEMENT; without any the DEBT waits. */
        private int actOf(int statement) {
            return statement < 0 || statement >= acts.length ? WAIT : acts[statement];
        }

        /** How many hundredths of its LEFT a DEBT is asked for: all by pay, none where it waits. */
        private int shareOf(int statement) {
            return statement < 0 || statement >= shares.length ? 0 : shares[statement];
        }

        private int startOf(int statement) {
            return statement < 0 || statement >= starts.length ? code.length : starts[statement];
        }

        private int codeAt(int place) {
            return place < 0 || place >= code.length ? 0 : code[place];
        }
    }

    /** Knows what a DEBT is asked with, and finds the STATEMENT whose TEST holds of it. */
    private static final class Weigher {
        // At most an or's and an and's left side wait outside each ( and within the last one,
        // where a relation's, a sum's and a product's may wait too: 36 with the newest value.
        private static final int PILE_ROOM = 64;
        private final long[] facts = new long[PLEDGED - OWED + 1];
        private final long[] pile = new long[PILE_ROOM];
        private int height;

        private void tell(int word, long value) {
            if (word >= OWED && word <= PLEDGED) {
                facts[word - OWED] = value;
            }
        }

        private int firstHeld(Text text) {
            for (int statement = 0; statement < text.acts.length; statement++) {
                if (holds(text, statement)) {
                    return statement;
                }
            }
            return NONE;
        }

        private boolean holds(Text text, int statement) {
            int from = text.startOf(statement);
            int to = text.startOf(statement + 1);
            height = 0;
            for (int place = from; place < to; place++) {
                doStep(text.codeAt(place));
            }
            return from >= to || pop() != 0;
        }

        private void doStep(int step) {
            int token = -step;
            if (step >= 0) {
                push(step);
            } else if (token >= OWED && token <= PLEDGED) {
                push(facts[token - OWED]);
            } else if (token == INVERT) {
                push(pop() == 0 ? 1 : 0);
            } else {
                long right = pop();
                long left = pop();
                push(joined(token, left, right));
            }
        }

        private static long joined(int token, long left, long right) {
            switch (token) {
                case '+': return left + right;
                case '-': return left - right;
                case '*': return left * right;
                case '<': return left < right ? 1 : 0;
                case '=': return left == right ? 1 : 0;
                case '>': return left > right ? 1 : 0;
                case AND: return left & right;
                default: return left | right;
            }
        }

        private void push(long value) {
            if (height < PILE_ROOM) {
                pile[height] = value;
                height++;
            }
        }

        private long pop() {
            if (height < 1) {
                return 0;
            }
            height--;
            return pile[height];
        }
    }

    /**
     * Reads THE TAPE token by token. What may come next is told by one number, what is still open
     * by a pile, so each token is refused at its own place as soon as nothing could go on with it.
     */
    private static final class Reader {
        private static final int WANT_STATEMENT = 0, WANT_ACT = 1, WANT_SHARE = 2, WANT_CLOSE = 3;
        private static final int WANT_ONE = 4, WANT_PART = 5, BEHIND_PART = 6, BEHIND_ONE = 7;
        private static final int NUMBER_DIGITS = 6;
        private static final int MOST_SHARE = 100;
        // At most an or and an and wait before each ( and behind the last one, where a relation, a
        // sum and a product may wait too: 50.
        private static final int PILE_ROOM = 64;

        private final Tape tape;
        private int place;
        private int start;
        private int token;
        private int value;

        private int wanted;
        private boolean compared;
        private int opened;
        private int nested;
        private final int[] pile = new int[PILE_ROOM];
        private int height;

        private final int[] acts = new int[STATEMENTS];
        private final int[] shares = new int[STATEMENTS];
        private final int[] starts = new int[STATEMENTS];
        private int made;
        private final int[] code = new int[TAPE_BYTES];
        private int codeLength;

        private Reader(Tape tape) {
            this.tape = tape;
        }

        /** Whether THE TAPE is a TEXT; if it is not, start is then its FAULT. */
        private boolean readTape() {
            place = 0;
            wanted = WANT_STATEMENT;
            compared = false;
            opened = 0;
            nested = 0;
            height = 0;
            made = 0;
            codeLength = 0;
            for (int read = 0; read <= TAPE_BYTES; read++) {
                nextToken();
                if (token == TAPE_END) {
                    return wanted == WANT_STATEMENT && made > 0;
                }
                if (!accepts()) {
                    return false;
                }
            }
            return false;
        }

        private Text lastText() {
            return new Text(Arrays.copyOf(acts, made), Arrays.copyOf(shares, made),
                Arrays.copyOf(starts, made), Arrays.copyOf(code, codeLength));
        }

        private void nextToken() {
            start = place;
            while (start < tape.length && isBlank(tape.byteAt(start))) {
                start++;
            }
            int first = tape.byteAt(start);
            place = start + 1;
            if (isLetter(first)) {
                while (place < tape.length && isLetter(tape.byteAt(place))) {
                    place++;
                }
                token = wordAt(start, place);
            } else if (isDigit(first)) {
                while (place < tape.length && isDigit(tape.byteAt(place))) {
                    place++;
                }
                token = NUMBER;
                value = numberAt(start, place);
            } else {
                token = first == TAPE_END || isSign(first) ? first : STRANGE;
            }
        }

        private static boolean isBlank(int b) {
            return b == ' ' || b == '\n';
        }

        private static boolean isLetter(int b) {
            return b >= 'a' && b <= 'z';
        }

        private static boolean isDigit(int b) {
            return b >= '0' && b <= '9';
        }

        private static boolean isSign(int b) {
            return b == ';' || b == '(' || b == ')' || isRelation(b) || isReckoning(b);
        }

        private static boolean isRelation(int b) {
            return b == '<' || b == '=' || b == '>';
        }

        private static boolean isReckoning(int b) {
            return b == '+' || b == '-' || b == '*';
        }

        private int wordAt(int from, int to) {
            for (int word = 0; (word + 1) * WORD_PLACES <= WORDS.length(); word++) {
                if (isWord(word * WORD_PLACES, from, to)) {
                    return word;
                }
            }
            return STRANGE;
        }

        private boolean isWord(int known, int from, int to) {
            if (known < 0 || known + WORD_PLACES > WORDS.length() || to - from > WORD_PLACES) {
                return false;
            }
            for (int i = 0; i < WORD_PLACES; i++) {
                int letter = from + i < to ? tape.byteAt(from + i) : ' ';
                if (letter != WORDS.charAt(known + i)) {
                    return false;
                }
            }
            return true;
        }

        /** The worth of the digits; above all that any NUMBER may be it stands still. */
        private int numberAt(int from, int to) {
            int number = 0;
            for (int i = from; i < to; i++) {
                number = Math.min(number * 10 + tape.byteAt(i) - '0', MOST_SUM);
            }
            return number;
        }

        private boolean accepts() {
            switch (wanted) {
                case WANT_STATEMENT: return acceptsStatement();
                case WANT_ACT: return acceptsAct();
                case WANT_SHARE: return acceptsShare();
                case WANT_CLOSE: return acceptsClose();
                case WANT_ONE: return acceptsOne();
                case WANT_PART: return acceptsPart();
                case BEHIND_PART: return acceptsBehindPart();
                default: return acceptsBehindOne();
            }
        }

        private boolean acceptsStatement() {
            if (made >= STATEMENTS) {
                return false;
            }
            starts[made] = codeLength;
            if (token != IF) {
                return acceptsAct();
            }
            wanted = WANT_ONE;
            return true;
        }

        private boolean acceptsAct() {
            if (token < PAY || token > HOLD || made >= STATEMENTS) {
                return false;
            }
            acts[made] = token;
            shares[made] = token == PAY ? MOST_SHARE : 0;
            wanted = token == PART ? WANT_SHARE : WANT_CLOSE;
            return true;
        }

        private boolean acceptsShare() {
            if (token != NUMBER || value < 1 || value > MOST_SHARE || made >= STATEMENTS) {
                return false;
            }
            shares[made] = value;
            wanted = WANT_CLOSE;
            return true;
        }

        private boolean acceptsClose() {
            if (token != ';') {
                return false;
            }
            made++;
            wanted = WANT_STATEMENT;
            return true;
        }

        private boolean acceptsOne() {
            if (token != INVERT && token != '(') {
                compared = false;
                return acceptsPart();
            }
            if (nested >= NESTINGS) {
                return false;
            }
            nested++;
            if (token == '(') {
                opened++;
            }
            push(token);
            return true;
        }

        private boolean acceptsPart() {
            if (token == NUMBER && place - start <= NUMBER_DIGITS) {
                emit(value);
            } else if (token >= OWED && token <= PLEDGED) {
                emit(-token);
            } else {
                return false;
            }
            wanted = BEHIND_PART;
            return true;
        }

        private boolean acceptsBehindPart() {
            if (isRelation(token) && !compared) {
                compared = true;
            } else if (!isReckoning(token)) {
                return compared && acceptsBehindOne();
            }
            join();
            wanted = WANT_PART;
            return true;
        }

        private boolean acceptsBehindOne() {
            if (token == AND || token == OR) {
                join();
                wanted = WANT_ONE;
            } else if (token == ')' && opened > 0) {
                emitDownTo(strength(OR));
                dropOpen();
                wanted = BEHIND_ONE;
            } else if (token == THEN && opened == 0) {
                emitDownTo(strength(OR));
                wanted = WANT_ACT;
            } else {
                return false;
            }
            return true;
        }

        /** What binds as strongly as this token or more is done before it. */
        private void join() {
            emitDownTo(strength(token));
            push(token);
        }

        private static int strength(int token) {
            switch (token) {
                case OR: return 1;
                case AND: return 2;
                case INVERT: return 3;
                case '<': case '=': case '>': return 4;
                case '+': case '-': return 5;
                case '*': return 6;
                default: return 0;
            }
        }

        private void emitDownTo(int least) {
            while (height > 0 && strength(pile[height - 1]) >= least) {
                height--;
                emit(-pile[height]);
                if (pile[height] == INVERT) {
                    nested--;
                }
            }
        }

        private void dropOpen() {
            if (height > 0) {
                height--;
                opened--;
                nested--;
            }
        }

        private void push(int waiting) {
            if (height < PILE_ROOM) {
                pile[height] = waiting;
                height++;
            }
        }

        private void emit(int step) {
            if (codeLength < TAPE_BYTES) {
                code[codeLength] = step;
                codeLength++;
            }
        }
    }

    /** THE CLOTH, and the NOTCHES that are laid on it. */
    private static final class Cloth {
        private static final int[] WORTHS = {1, 12, 240, 4800, 24000, 240000};
        private static final int[] OF_THE_NEXT = {12, 20, 20, 5, 10};
        private final int[] counters = new int[COLUMNS];

        /** Each worth goes into the next one, so what a column has does not hang on the others. */
        private static int notches(int sum, int column) {
            switch (column) {
                case 0: return sum % 12;
                case 1: return sum / 12 % 20;
                case 2: return sum / 240 % 20;
                case 3: return sum / 4800 % 5;
                case 4: return sum / 24000 % 10;
                case 5: return sum / 240000;
                default: return 0;
            }
        }

        private long lies() {
            long all = 0;
            for (int column = 0; column < COLUMNS; column++) {
                all += (long) counters[column] * WORTHS[column];
            }
            return all;
        }

        private int layDown(int sum) {
            for (int column = 0; column < COLUMNS; column++) {
                counters[column] += notches(sum, column);
            }
            int steps = 0;
            for (int column = 0; column < OF_THE_NEXT.length; column++) {
                // One is enough: before, and of the NOTCHES, there were fewer than that.
                if (counters[column] >= OF_THE_NEXT[column]) {
                    counters[column] -= OF_THE_NEXT[column];
                    counters[column + 1]++;
                    steps++;
                }
            }
            return steps;
        }

        private int takeUp(int sum) {
            int steps = 0;
            for (int column = 0; column < COLUMNS; column++) {
                int wanted = notches(sum, column);
                if (counters[column] < wanted) {
                    steps += bringDown(column);
                }
                counters[column] -= wanted;
            }
            return steps;
        }

        /** One counter of the nearest column above that has some comes down, step by step. */
        private int bringDown(int lacking) {
            int giver = lacking + 1;
            while (giver < COLUMNS && counters[giver] < 1) {
                giver++;
            }
            if (giver >= COLUMNS) {
                return 0;
            }
            for (int column = giver; column > lacking; column--) {
                counters[column]--;
                counters[column - 1] += OF_THE_NEXT[column - 1];
            }
            return giver - lacking;
        }
    }
}
