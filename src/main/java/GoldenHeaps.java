import java.util.Arrays;
import java.util.NoSuchElementException;

/** Two heaps of Wythoff and what grows from them; what each call answers is told by the document. */
public final class GoldenHeaps {
    public static final int NONE = -1;
    public static final int NO_ERROR = 0;
    public static final int SYNTAX = 1;
    public static final int OUT_OF_RANGE = 2;
    public static final int UNKNOWN = 3;
    public static final int REPEATED = 4;
    public static final int TOO_MANY = 5;

    private static final int GREATEST_HEAP = 40;
    private static final int SIDE = GREATEST_HEAP + 1;
    private static final int POSITIONS = SIDE * SIDE;
    private static final int GREATEST_LENGTH = 60;
    private static final int GREATEST_LIMIT = 9;
    private static final int GREATEST_SLACK = 5;
    private static final int GREATEST_MOST = 40;
    private static final int RULE_ROOM = 4;
    private static final int BOARD_ROOM = 4;
    private static final int STICK_ROOM = 4;
    private static final int ONLY_ROOM = 8;
    private static final int BAR_ROOM = 4;
    private static final int NAME_ROOM = 8;
    private static final int LETTER_BITS = 5;
    private static final int LETTER_MASK = 31;
    private static final int PLAYERS = 2;
    private static final int ACCOUNTS = 5;
    private static final int TURN_NUMBERS = 5;
    private static final int TURN_ROOM = 20;
    private static final int CHANGE_ROOM = 8;
    private static final int SLOTS = 2;
    private static final int INPUT_ROOM = 600;
    private static final int APPENDED = 20;
    private static final int OUTPUT_ROOM = 256;
    private static final int GREATEST_PLACE = 100000000;
    private static final int GREATEST_LOOKED_UP = 500000000;
    private static final int MOST_TURNS = 600;

    /** In place of a VALUE: moves to any VALUE are meant. */
    private static final int ANY = -1;

    /** The row of which each number is a sum, as far as 500000000 needs it. */
    private static final int[] SUMMANDS = {
        1, 2, 3, 5, 8, 13, 21, 34, 55, 89, 144, 233, 377, 610, 987, 1597, 2584, 4181, 6765, 10946, 17711, 28657,
        46368, 75025, 121393, 196418, 317811, 514229, 832040, 1346269, 2178309, 3524578, 5702887, 9227465, 14930352,
        24157817, 39088169, 63245986, 102334155, 165580141, 267914296, 433494437
    };

    private final int[] input = new int[INPUT_ROOM];
    private int inputLength = 0;
    private int latestError = NO_ERROR;
    private int latestErrorAt = NONE;
    private final Loader loader = new Loader();
    private final Output output = new Output();
    private final Game game = new Game();
    private final Mix mix = new Mix();
    private final History history = new History();
    private final Game[] snapshots = new Game[SLOTS];
    private final boolean[] isKept = new boolean[SLOTS];
    // These four are made once and used again by each call that asks what would be.
    private final Rule otherRule = new Rule();
    private final Table otherTable = new Table();
    private final Parts trial = new Parts();
    private final Hint hint = new Hint();

    public GoldenHeaps() {
        for (int i = 0; i < SLOTS; i++) {
            snapshots[i] = new Game();
        }
        game.beginPlain();
    }

    // ---- setup text

    public int appendInput(int a, int b, int c, int d, int e) {
        if (inputLength + APPENDED > INPUT_ROOM) {
            return -1;
        }
        appendFour(a);
        appendFour(b);
        appendFour(c);
        appendFour(d);
        appendFour(e);
        return inputLength;
    }

    private void appendFour(int four) {
        for (int shift = 24; shift >= 0; shift -= 8) {
            if (inputLength < INPUT_ROOM) {
                input[inputLength] = four >>> shift & 255;
                inputLength++;
            }
        }
    }

    public boolean truncateInput(int length) {
        if (length < 0 || length > inputLength) {
            return false;
        }
        inputLength = length;
        return true;
    }

    public int loadHeaps() {
        latestError = loader.read(input, inputLength);
        latestErrorAt = loader.errorAt;
        inputLength = 0;
        if (latestError != NO_ERROR) {
            return -1;
        }
        game.copyFrom(loader.loaded);
        history.clear();
        for (int i = 0; i < SLOTS; i++) {
            isKept[i] = false;
        }
        return game.parts.many();
    }

    public int errorCode() {
        return latestError;
    }

    public int errorOffset() {
        return latestErrorAt;
    }

    // ---- numbers of what there is

    public int count(int what) throws IllegalArgumentException {
        switch (what) {
            case 0: return game.ruleMany;
            case 1: return game.parts.boards;
            case 2: return game.parts.sticks;
            case 3: return game.player;
            case 4: return game.turnsNow;
            case 5: return fittedMix().totalOf(game.parts);
            case 6: return fittedMix().allMoves(game.parts);
            case 7: return fittedMix().allWinningMoves(game.parts);
            case 8: return fittedMix().isOver(game.parts) ? 1 : 0;
            case 9: return game.games;
            case 10: return history.many;
            case 11: return game.parts.units();
            case 12: return game.turnsKept;
            default: throw new IllegalArgumentException("there is no such number of the whole");
        }
    }

    public int account(int player, int what) throws IndexOutOfBoundsException, IllegalArgumentException {
        needPlayer(player);
        needRange(what, 0, ACCOUNTS - 1);
        return game.accountOf(player, what);
    }

    public int turn(int index, int what) throws IndexOutOfBoundsException, IllegalArgumentException {
        if (index < 0 || index >= game.turnsKept) {
            throw new IndexOutOfBoundsException("no such turn is kept");
        }
        needRange(what, 0, TURN_NUMBERS - 1);
        return game.turnNumber(index, what);
    }

    public int rule(int rule, int what) throws IndexOutOfBoundsException, IllegalArgumentException {
        needRule(rule);
        Rule asked = game.ruleAt(rule);
        switch (what) {
            case 0: return asked.slack;
            case 1: return asked.most;
            case 2: return Long.bitCount(asked.only);
            case 3: return asked.bars;
            case 4: return asked.isFree() ? 1 : 0;
            case 5: return fittedTable(rule).greatestValue;
            case 6: return fittedTable(rule).losingMany;
            case 7: return game.parts.boardsWith(rule);
            case 8: return fittedTable(rule).greatestSpan;
            default: throw new IllegalArgumentException("there is no such number of a rule");
        }
    }

    public int only(int rule, int index) throws IndexOutOfBoundsException {
        needRule(rule);
        return game.ruleAt(rule).onlyAt(index);
    }

    public int barred(int rule, int index, boolean second) throws IndexOutOfBoundsException {
        needRule(rule);
        int move = game.ruleAt(rule).barAt(index);
        if (move < 0) {
            return NONE;
        }
        return second ? move % SIDE : move / SIDE;
    }

    public int ruleLetter(int rule, int index) throws IndexOutOfBoundsException {
        needRule(rule);
        return letterOf(game.ruleAt(rule).name, index);
    }

    public int part(int part, int what) throws IndexOutOfBoundsException, IllegalArgumentException {
        needPart(part);
        Parts parts = game.parts;
        boolean isBoard = parts.isBoard(part);
        switch (what) {
            case 0: return isBoard ? 0 : 1;
            case 1: return parts.kindOf(part);
            case 2: return parts.firstOf(part);
            case 3: return isBoard ? parts.secondOf(part) : NONE;
            case 4: return fittedMix().valueOf(parts, part);
            case 5: return fittedMix().movesTo(parts, part, ANY);
            case 6: return fittedMix().winningMoves(parts, part);
            case 7: return parts.toldFirstOf(part);
            case 8: return isBoard ? parts.toldSecondOf(part) : NONE;
            default: throw new IllegalArgumentException("there is no such number of a part");
        }
    }

    // ---- moves and tables

    public boolean allows(int rule, int k, int l) throws IndexOutOfBoundsException, IllegalArgumentException {
        needRule(rule);
        needHeaps(k, l);
        return k + l > 0 && game.ruleAt(rule).refusal(k, l) == 0;
    }

    public int whyNot(int part, int k, int l) throws IndexOutOfBoundsException {
        needPart(part);
        return game.reasonAgainst(part, k, l);
    }

    public int value(int rule, int x, int y) throws IndexOutOfBoundsException, IllegalArgumentException {
        needRule(rule);
        needHeaps(x, y);
        return fittedTable(rule).valueAt(x, y);
    }

    public int span(int rule, int x, int y) throws IndexOutOfBoundsException, IllegalArgumentException {
        needRule(rule);
        needHeaps(x, y);
        return fittedTable(rule).spanAt(x, y);
    }

    public int losing(int rule, int index, boolean second) throws IndexOutOfBoundsException {
        needRule(rule);
        int place = fittedTable(rule).losingPlace(index);
        if (place < 0) {
            return NONE;
        }
        return second ? place % SIDE : place / SIDE;
    }

    public int partner(int rule, int x) throws IndexOutOfBoundsException, IllegalArgumentException {
        needRule(rule);
        needRange(x, 0, GREATEST_HEAP);
        Table table = fittedTable(rule);
        for (int y = 0; y <= GREATEST_HEAP; y++) {
            if (table.valueAt(x, y) == 0) {
                return y;
            }
        }
        return NONE;
    }

    // ---- golden rows

    public int golden(int slack, int n, boolean second) throws IllegalArgumentException {
        needRange(slack, 1, GREATEST_SLACK);
        needRange(n, 0, GREATEST_PLACE);
        return (int) goldenNumber(slack, n, second);
    }

    public int goldenOf(int slack, int v) throws IllegalArgumentException {
        needRange(slack, 1, GREATEST_SLACK);
        needRange(v, 1, GREATEST_LOOKED_UP);
        long n = firstReaching(slack, v, false);
        if (goldenNumber(slack, n, false) == v) {
            return (int) (2 * n);
        }
        return (int) (2 * firstReaching(slack, v, true) + 1);
    }

    public long goldenPartner(int slack, int v) throws IllegalArgumentException {
        needRange(slack, 1, GREATEST_SLACK);
        needRange(v, 1, GREATEST_LOOKED_UP);
        long n = firstReaching(slack, v, false);
        if (goldenNumber(slack, n, false) == v) {
            return v + slack * n;
        }
        return v - slack * firstReaching(slack, v, true);
    }

    public int goldenMany(int slack, int most) throws IllegalArgumentException {
        needRange(slack, 1, GREATEST_SLACK);
        needRange(most, 0, GREATEST_LOOKED_UP);
        return (int) firstReaching(slack, most + 1, true) - 1;
    }

    public int summand(int v, int index) throws IllegalArgumentException {
        needRange(v, 1, GREATEST_LOOKED_UP);
        int rest = v;
        int ahead = 0;
        for (int place = SUMMANDS.length - 1; place >= 0; place--) {
            if (SUMMANDS[place] <= rest) {
                if (ahead == index) {
                    return SUMMANDS[place];
                }
                ahead++;
                rest -= SUMMANDS[place];
            }
        }
        return NONE;
    }

    public int leastPlace(int v) throws IllegalArgumentException {
        needRange(v, 1, GREATEST_LOOKED_UP);
        int rest = v;
        int least = 0;
        for (int place = SUMMANDS.length - 1; place >= 0; place--) {
            if (SUMMANDS[place] <= rest && rest > 0) {
                least = place;
                rest -= SUMMANDS[place];
            }
        }
        return least;
    }

    public int gap(int rule) throws IndexOutOfBoundsException {
        needRule(rule);
        Rule asked = game.ruleAt(rule);
        if (!asked.isFree()) {
            return NONE;
        }
        Table table = fittedTable(rule);
        int golden = 0;
        int both = 0;
        for (int n = 0; n <= GREATEST_HEAP; n++) {
            int a = (int) goldenNumber(asked.slack, n, false);
            int b = (int) goldenNumber(asked.slack, n, true);
            if (b <= GREATEST_HEAP) {
                golden += a == b ? 1 : 2;
                both += table.valueAt(a, b) == 0 ? 1 : 0;
                both += a != b && table.valueAt(b, a) == 0 ? 1 : 0;
            }
        }
        return table.losingMany - both + golden - both;
    }

    // ---- what is ahead

    public int advice(int what) throws IllegalArgumentException {
        needRange(what, 0, 3);
        fittedMix().advise(game.parts, hint);
        if (!hint.isThere) {
            return NONE;
        }
        switch (what) {
            case 0: return hint.part;
            case 1: return hint.k;
            case 2: return hint.l;
            default: return hint.wins ? 1 : 0;
        }
    }

    public int turnsIn() {
        return turnsAhead(fittedMix());
    }

    public int winner() {
        // With no turns ahead it is the one who has not the turn, as with two.
        return (game.player + turnsAhead(fittedMix()) + 1) % PLAYERS;
    }

    private int turnsAhead(Mix fitted) {
        trial.copyFrom(game.parts);
        int turns = 0;
        // Each turn takes a unit, so there are fewer turns than 600.
        for (int i = 0; i < MOST_TURNS; i++) {
            fitted.advise(trial, hint);
            if (!hint.isThere) {
                return turns;
            }
            trial.take(hint.part, hint.k, hint.l);
            turns++;
        }
        return turns;
    }

    public int totalBehind(int part, int k, int l) throws IndexOutOfBoundsException {
        needPart(part);
        if (game.reasonAgainst(part, k, l) != 0) {
            return NONE;
        }
        trial.copyFrom(game.parts);
        trial.take(part, k, l);
        return fittedMix().totalOf(trial);
    }

    public int changedBy(int rule, int k, int l) throws IndexOutOfBoundsException, IllegalArgumentException {
        needRule(rule);
        needMove(k, l);
        otherRule.copyFrom(game.ruleAt(rule));
        otherRule.setBarred(k, l, !otherRule.isBarred(k, l));
        otherTable.fitLosing(otherRule);
        return fittedTable(rule).losingDifference(otherTable);
    }

    public int losingWith(int rule, int slack) throws IndexOutOfBoundsException, IllegalArgumentException {
        needRule(rule);
        needRange(slack, 0, GREATEST_SLACK);
        otherRule.copyFrom(game.ruleAt(rule));
        otherRule.slack = slack;
        otherTable.fitLosing(otherRule);
        return otherTable.losingMany;
    }

    public float share(int rule) throws IndexOutOfBoundsException {
        needRule(rule);
        return (float) fittedTable(rule).losingMany / (float) POSITIONS;
    }

    public double meanValue(int rule) throws IndexOutOfBoundsException {
        needRule(rule);
        return (double) fittedTable(rule).valueSum / (double) POSITIONS;
    }

    // ---- changes

    public int move(int part, int k, int l) throws IndexOutOfBoundsException, IllegalStateException {
        needPart(part);
        if (game.reasonAgainst(part, k, l) != 0) {
            throw new IllegalStateException("the move is refused");
        }
        history.push(game);
        return makeTurn(fittedMix(), part, k, l);
    }

    public int follow(int turns) throws IllegalArgumentException {
        needRange(turns, 1, MOST_TURNS);
        history.push(game);
        Mix fitted = fittedMix();
        for (int made = 0; made < turns; made++) {
            fitted.advise(game.parts, hint);
            if (!hint.isThere) {
                return made;
            }
            makeTurn(fitted, hint.part, hint.k, hint.l);
        }
        return turns;
    }

    /** Makes a move that is known to be allowed; answers TOTAL behind it. */
    private int makeTurn(Mix fitted, int part, int k, int l) {
        // There is a winning move exactly if TOTAL is not 0, as VALUES are made that way.
        boolean couldWin = fitted.totalOf(game.parts) != 0;
        game.parts.take(part, k, l);
        int total = fitted.totalOf(game.parts);
        game.addToAccount(0, 1);
        game.addToAccount(1, k + l);
        if (fitted.isOver(game.parts)) {
            game.addToAccount(2, 1);
        }
        if (total == 0) {
            game.addToAccount(3, 1);
        } else if (couldWin) {
            game.addToAccount(4, 1);
        }
        game.keepTurn(part, k, l, total);
        game.turnsNow++;
        game.player = 1 - game.player;
        return total;
    }

    public int bar(int rule, int k, int l, boolean is)
            throws IndexOutOfBoundsException, IllegalArgumentException, IllegalStateException {
        needRule(rule);
        needMove(k, l);
        Rule changed = game.ruleAt(rule);
        if (is && !changed.isBarred(k, l) && changed.bars >= BAR_ROOM) {
            throw new IllegalStateException("the rule bars as many moves as it can");
        }
        history.push(game);
        changed.setBarred(k, l, is);
        return changed.bars;
    }

    public int setSlack(int rule, int slack) throws IndexOutOfBoundsException, IllegalArgumentException {
        needRule(rule);
        needRange(slack, 0, GREATEST_SLACK);
        history.push(game);
        Rule changed = game.ruleAt(rule);
        int before = changed.slack;
        changed.slack = slack;
        return before;
    }

    public int setMost(int rule, int most) throws IndexOutOfBoundsException, IllegalArgumentException {
        needRule(rule);
        needRange(most, 1, GREATEST_MOST);
        history.push(game);
        Rule changed = game.ruleAt(rule);
        int before = changed.most;
        changed.most = most;
        return before;
    }

    public int again(int first) throws IndexOutOfBoundsException {
        needPlayer(first);
        history.push(game);
        game.parts.standAsTold();
        game.player = first;
        game.turnsNow = 0;
        game.games++;
        return fittedMix().totalOf(game.parts);
    }

    public int undo() throws NoSuchElementException {
        if (history.many == 0) {
            throw new NoSuchElementException("there is nothing to undo");
        }
        history.pop(game);
        return history.many;
    }

    // ---- output

    public int printParts() {
        output.clear();
        for (int part = 0; part < game.parts.many(); part++) {
            if (part > 0) {
                output.put(' ');
            }
            printOnePart(part);
        }
        return output.length;
    }

    private void printOnePart(int part) {
        Parts parts = game.parts;
        if (parts.isBoard(part)) {
            output.putName(game.ruleAt(parts.kindOf(part)).name);
            output.put(':');
            output.putNumber(parts.firstOf(part));
            output.put(',');
            output.putNumber(parts.secondOf(part));
        } else {
            output.putNumber(parts.firstOf(part));
            output.put('/');
            output.putNumber(parts.kindOf(part));
        }
    }

    public int printRule(int rule) throws IndexOutOfBoundsException {
        needRule(rule);
        Rule printed = game.ruleAt(rule);
        output.clear();
        output.putWord("rule ");
        output.putName(printed.name);
        if (printed.only != 0) {
            output.putWord(" only");
            for (int n = 1; n <= GREATEST_HEAP; n++) {
                if (printed.hasOnly(n)) {
                    output.putSpaced(n);
                }
            }
        }
        output.putWord(" slack");
        output.putSpaced(printed.slack);
        output.putWord(" most");
        output.putSpaced(printed.most);
        for (int i = 0; i < printed.bars; i++) {
            output.putWord(" bar");
            output.putSpaced(printed.barAt(i) / SIDE);
            output.putSpaced(printed.barAt(i) % SIDE);
        }
        return output.length;
    }

    public int outputByte(int index) {
        return output.byteAt(index);
    }

    // ---- snapshots

    public int keep(int slot) throws IllegalArgumentException {
        needRange(slot, 0, SLOTS - 1);
        snapshots[slot].copyFrom(game);
        isKept[slot] = true;
        return game.turnsNow;
    }

    public int bringBack(int slot) throws IllegalArgumentException, NoSuchElementException {
        needRange(slot, 0, SLOTS - 1);
        if (!isKept[slot]) {
            throw new NoSuchElementException("nothing is kept there");
        }
        game.copyFrom(snapshots[slot]);
        history.clear();
        return game.turnsNow;
    }

    // ---- tables, made when they are asked for

    /** The only way to the mix: its tables are those of what the boards' rules say now. */
    private Mix fittedMix() {
        mix.fit(game);
        return mix;
    }

    /** The table of what a rule says now. */
    private Table fittedTable(int rule) {
        Table table = mix.tableAt(rule);
        table.fit(game.ruleAt(rule));
        return table;
    }

    // ---- what calls need of their arguments

    private void needRule(int rule) {
        if (rule < 0 || rule >= game.ruleMany) {
            throw new IndexOutOfBoundsException("there is no such rule");
        }
    }

    private void needPart(int part) {
        if (part < 0 || part >= game.parts.many()) {
            throw new IndexOutOfBoundsException("there is no such part");
        }
    }

    private static void needPlayer(int player) {
        if (player < 0 || player >= PLAYERS) {
            throw new IndexOutOfBoundsException("there is no such player");
        }
    }

    private static void needRange(int number, int least, int greatest) {
        if (number < least || number > greatest) {
            throw new IllegalArgumentException("a number is out of its range");
        }
    }

    private static void needHeaps(int x, int y) {
        needRange(x, 0, GREATEST_HEAP);
        needRange(y, 0, GREATEST_HEAP);
    }

    private static void needMove(int k, int l) {
        needHeaps(k, l);
        if (k == 0 && l == 0) {
            throw new IllegalArgumentException("a move takes at least one unit");
        }
    }

    // ---- arithmetic of the golden rows and of names

    /** A(n), or B(n); exact while (slack * slack + 4) * n * n stays below 2 to the power of 63. */
    private static long goldenNumber(int slack, long n, boolean second) {
        long root = rootOf((slack * slack + 4) * n * n);
        // Rounding the root down first is exact: what it is added to is whole.
        long a = ((2 - slack) * n + root) / 2;
        return second ? a + slack * n : a;
    }

    /** The square root, rounded down. */
    private static long rootOf(long square) {
        long root = 0;
        for (int bit = 31; bit >= 0; bit--) {
            long tried = root + (1L << bit);
            // The greatest number whose square is a long is 3037000499.
            if (tried <= 3037000499L && tried * tried <= square) {
                root = tried;
            }
        }
        return root;
    }

    /** The smallest n above 0 with which A(n), or B(n), is at least v, which is above 0. */
    private static long firstReaching(int slack, int v, boolean second) {
        long below = 0;
        // A(n) and B(n) are at least n.
        long reaching = v;
        for (int halvings = 0; halvings < 32 && reaching - below > 1; halvings++) {
            long middle = (below + reaching) / 2;
            if (goldenNumber(slack, middle, second) >= v) {
                reaching = middle;
            } else {
                below = middle;
            }
        }
        return reaching;
    }

    /** The letter of a name, 1 to 26; 0 if there is none. */
    private static int letterOf(long name, int index) {
        if (index < 0 || index >= NAME_ROOM) {
            return 0;
        }
        return (int) (name >>> index * LETTER_BITS) & LETTER_MASK;
    }

    /** What a rule says. */
    private static final class Rule {
        /** The letters, five bits each, the first one lowest: so == compares names. */
        private long name = 0;
        /** Bit n tells that n is in ONLY; 0 without ONLY. */
        private long only = 0;
        private int slack = 1;
        private int most = GREATEST_MOST;
        private int bars = 0;
        /** Each k * SIDE + l; one place more than a rule may use, for what a further bar would change. */
        private final int[] barMoves = new int[BAR_ROOM + 1];

        void begin(long newName) {
            name = newName;
            only = 0;
            slack = 1;
            most = GREATEST_MOST;
            bars = 0;
        }

        void copyFrom(Rule other) {
            name = other.name;
            only = other.only;
            slack = other.slack;
            most = other.most;
            bars = other.bars;
            System.arraycopy(other.barMoves, 0, barMoves, 0, barMoves.length);
        }

        boolean hasMovesOf(Rule other) {
            if (only != other.only || slack != other.slack || most != other.most || bars != other.bars) {
                return false;
            }
            for (int i = 0; i < bars && i < barMoves.length; i++) {
                if (barMoves[i] != other.barMoves[i]) {
                    return false;
                }
            }
            return true;
        }

        boolean isFree() {
            return only == 0 && most == GREATEST_MOST && slack > 0 && bars == 0;
        }

        boolean hasOnly(int n) {
            return n >= 0 && n <= GREATEST_HEAP && (only >>> n & 1) == 1;
        }

        int onlyAt(int index) {
            int ahead = 0;
            for (int n = 1; n <= GREATEST_HEAP; n++) {
                if (hasOnly(n)) {
                    if (ahead == index) {
                        return n;
                    }
                    ahead++;
                }
            }
            return NONE;
        }

        void addOnly(int n) {
            if (n >= 0 && n <= GREATEST_HEAP) {
                only |= 1L << n;
            }
        }

        /** The barred move as k * SIDE + l; NONE if there is none such. */
        int barAt(int index) {
            return index >= 0 && index < bars && index < barMoves.length ? barMoves[index] : NONE;
        }

        int placeOfBar(int k, int l) {
            for (int i = 0; i < bars && i < barMoves.length; i++) {
                if (barMoves[i] == k * SIDE + l) {
                    return i;
                }
            }
            return NONE;
        }

        boolean isBarred(int k, int l) {
            return placeOfBar(k, l) != NONE;
        }

        void setBarred(int k, int l, boolean is) {
            int place = placeOfBar(k, l);
            if (is && place == NONE && bars < barMoves.length) {
                barMoves[bars] = k * SIDE + l;
                bars++;
            }
            if (!is && place != NONE) {
                for (int i = place; i + 1 < bars && i + 1 < barMoves.length; i++) {
                    barMoves[i] = barMoves[i + 1];
                }
                bars--;
            }
        }

        /** The first of the reasons 4 to 7 against a move whose numbers are not below 0; 0 if there is none. */
        int refusal(int k, int l) {
            if (k > most || l > most) {
                return 4;
            }
            if (k == 0 || l == 0) {
                if (only != 0 && !hasOnly(k + l)) {
                    return 5;
                }
            } else if (Math.abs(k - l) >= slack) {
                return 6;
            }
            return placeOfBar(k, l) != NONE ? 7 : 0;
        }
    }

    /** VALUE and SPAN of all positions of a rule. */
    private static final class Table {
        private final Rule fitted = new Rule();
        private boolean isFitted = false;
        /** The moves that the rule allows, in their order. */
        private final int[] stepK = new int[POSITIONS];
        private final int[] stepL = new int[POSITIONS];
        private int steps = 0;
        /** By x * SIDE + y. */
        private final int[] values = new int[POSITIONS];
        private final int[] spans = new int[POSITIONS];
        /** For each VALUE the latest position, counted from 1, from which a move leads to it. */
        private final int[] reachedFrom = new int[POSITIONS];
        private int greatestValue = 0;
        private int greatestSpan = 0;
        private int losingMany = 0;
        private int valueSum = 0;

        void fit(Rule rule) {
            if (isFitted && fitted.hasMovesOf(rule)) {
                return;
            }
            isFitted = true;
            gatherSteps(rule);
            Arrays.fill(reachedFrom, 0);
            for (int x = 0; x < SIDE; x++) {
                for (int y = 0; y < SIDE; y++) {
                    settle(x, y);
                }
            }
            tally();
        }

        /** Finds the losing positions alone, which is far less work: the VALUES of the others are then all 1. */
        void fitLosing(Rule rule) {
            isFitted = false;
            gatherSteps(rule);
            Arrays.fill(values, 0);
            for (int x = 0; x < SIDE; x++) {
                for (int y = 0; y < SIDE; y++) {
                    if (values[x * SIDE + y] == 0) {
                        markWinningAbove(x, y);
                    }
                }
            }
            tally();
        }

        private void gatherSteps(Rule rule) {
            fitted.copyFrom(rule);
            steps = 0;
            for (int k = 0; k <= GREATEST_HEAP; k++) {
                for (int l = 0; l <= GREATEST_HEAP; l++) {
                    if (k + l > 0 && rule.refusal(k, l) == 0 && steps < POSITIONS) {
                        stepK[steps] = k;
                        stepL[steps] = l;
                        steps++;
                    }
                }
            }
        }

        /** Finds VALUE and SPAN of a position behind all those to which its moves lead. */
        private void settle(int x, int y) {
            int place = x * SIDE + y;
            int farthest = NONE;
            int nearestLosing = POSITIONS;
            for (int i = 0; i < steps && stepK[i] <= x; i++) {
                if (stepL[i] <= y) {
                    int to = place - stepK[i] * SIDE - stepL[i];
                    int reached = values[to];
                    int span = spans[to];
                    if (reached >= 0 && reached < POSITIONS) {
                        reachedFrom[reached] = place + 1;
                    }
                    if (span > farthest) {
                        farthest = span;
                    }
                    if (reached == 0 && span < nearestLosing) {
                        nearestLosing = span;
                    }
                }
            }
            int least = 0;
            while (least < POSITIONS && reachedFrom[least] == place + 1) {
                least++;
            }
            values[place] = least;
            spans[place] = least == 0 ? farthest + 1 : nearestLosing + 1;
        }

        private void markWinningAbove(int x, int y) {
            for (int i = 0; i < steps && x + stepK[i] <= GREATEST_HEAP; i++) {
                if (y + stepL[i] <= GREATEST_HEAP) {
                    values[(x + stepK[i]) * SIDE + y + stepL[i]] = 1;
                }
            }
        }

        private void tally() {
            greatestValue = 0;
            greatestSpan = 0;
            losingMany = 0;
            valueSum = 0;
            for (int place = 0; place < POSITIONS; place++) {
                greatestValue = Math.max(greatestValue, values[place]);
                greatestSpan = Math.max(greatestSpan, spans[place]);
                losingMany += values[place] == 0 ? 1 : 0;
                valueSum += values[place];
            }
        }

        int valueAt(int x, int y) {
            return x >= 0 && x < SIDE && y >= 0 && y < SIDE ? values[x * SIDE + y] : 0;
        }

        int spanAt(int x, int y) {
            return x >= 0 && x < SIDE && y >= 0 && y < SIDE ? spans[x * SIDE + y] : 0;
        }

        int losingPlace(int index) {
            int ahead = 0;
            for (int place = 0; place < POSITIONS; place++) {
                if (values[place] == 0) {
                    if (ahead == index) {
                        return place;
                    }
                    ahead++;
                }
            }
            return NONE;
        }

        int losingDifference(Table other) {
            int different = 0;
            for (int place = 0; place < POSITIONS; place++) {
                if ((values[place] == 0) != (other.values[place] == 0)) {
                    different++;
                }
            }
            return different;
        }

        private boolean leadsTo(int step, int x, int y, int target) {
            if (stepK[step] > x || stepL[step] > y) {
                return false;
            }
            return target == ANY || valueAt(x - stepK[step], y - stepL[step]) == target;
        }

        /** How many moves of a position lead to a VALUE. */
        int movesTo(int x, int y, int target) {
            int many = 0;
            for (int i = 0; i < steps && stepK[i] <= x; i++) {
                if (leadsTo(i, x, y, target)) {
                    many++;
                }
            }
            return many;
        }

        /** Puts the first move of a position that leads to a VALUE; tells whether there is one. */
        boolean findMove(int x, int y, int target, Hint found) {
            for (int i = 0; i < steps && stepK[i] <= x; i++) {
                if (leadsTo(i, x, y, target)) {
                    found.k = stepK[i];
                    found.l = stepL[i];
                    return true;
                }
            }
            return false;
        }
    }

    /** Boards and sticks; the second heap of a stick is 0. */
    private static final class Parts {
        private int boards = 0;
        private int sticks = 0;
        /** By places, the sticks behind room for all boards: the rule of a board, LIMIT of a stick. */
        private final int[] kinds = new int[BOARD_ROOM + STICK_ROOM];
        private final int[] firsts = new int[BOARD_ROOM + STICK_ROOM];
        private final int[] seconds = new int[BOARD_ROOM + STICK_ROOM];
        private final int[] toldFirsts = new int[BOARD_ROOM + STICK_ROOM];
        private final int[] toldSeconds = new int[BOARD_ROOM + STICK_ROOM];

        void clear() {
            boards = 0;
            sticks = 0;
        }

        void copyFrom(Parts other) {
            boards = other.boards;
            sticks = other.sticks;
            System.arraycopy(other.kinds, 0, kinds, 0, kinds.length);
            System.arraycopy(other.firsts, 0, firsts, 0, firsts.length);
            System.arraycopy(other.seconds, 0, seconds, 0, seconds.length);
            System.arraycopy(other.toldFirsts, 0, toldFirsts, 0, toldFirsts.length);
            System.arraycopy(other.toldSeconds, 0, toldSeconds, 0, toldSeconds.length);
        }

        void addBoard(int rule, int first, int second) {
            if (boards < BOARD_ROOM) {
                putTold(boards, rule, first, second);
                boards++;
            }
        }

        void addStick(int length, int limit) {
            if (sticks < STICK_ROOM) {
                putTold(BOARD_ROOM + sticks, limit, length, 0);
                sticks++;
            }
        }

        private void putTold(int place, int kind, int first, int second) {
            if (place >= 0 && place < kinds.length) {
                kinds[place] = kind;
                firsts[place] = first;
                seconds[place] = second;
                toldFirsts[place] = first;
                toldSeconds[place] = second;
            }
        }

        int many() {
            return boards + sticks;
        }

        boolean isBoard(int part) {
            return part < boards;
        }

        private int at(int[] row, int part) {
            int place = part < boards ? part : BOARD_ROOM + part - boards;
            return place >= 0 && place < row.length ? row[place] : 0;
        }

        int kindOf(int part) {
            return at(kinds, part);
        }

        int firstOf(int part) {
            return at(firsts, part);
        }

        int secondOf(int part) {
            return at(seconds, part);
        }

        int toldFirstOf(int part) {
            return at(toldFirsts, part);
        }

        int toldSecondOf(int part) {
            return at(toldSeconds, part);
        }

        void take(int part, int k, int l) {
            int place = part < boards ? part : BOARD_ROOM + part - boards;
            if (place >= 0 && place < firsts.length) {
                firsts[place] -= k;
                seconds[place] -= l;
            }
        }

        void standAsTold() {
            System.arraycopy(toldFirsts, 0, firsts, 0, firsts.length);
            System.arraycopy(toldSeconds, 0, seconds, 0, seconds.length);
        }

        int units() {
            int sum = 0;
            for (int part = 0; part < many(); part++) {
                sum += firstOf(part) + secondOf(part);
            }
            return sum;
        }

        int boardsWith(int rule) {
            int with = 0;
            for (int board = 0; board < boards; board++) {
                if (kindOf(board) == rule) {
                    with++;
                }
            }
            return with;
        }
    }

    /** All that changes change, and that snapshots keep. */
    private static final class Game {
        private final Rule[] rules = new Rule[RULE_ROOM];
        private int ruleMany = 0;
        private final Parts parts = new Parts();
        private int player = 0;
        private int turnsNow = 0;
        private int games = 1;
        private final int[] accounts = new int[PLAYERS * ACCOUNTS];
        /** The latest turn first, each with its numbers in the order in which they are asked for. */
        private final int[] turns = new int[TURN_ROOM * TURN_NUMBERS];
        private int turnsKept = 0;

        Game() {
            for (int i = 0; i < RULE_ROOM; i++) {
                rules[i] = new Rule();
            }
        }

        void clear() {
            ruleMany = 0;
            parts.clear();
            player = 0;
            turnsNow = 0;
            games = 1;
            turnsKept = 0;
            Arrays.fill(accounts, 0);
        }

        void beginPlain() {
            clear();
            addRule(Tokens.packed("plain"));
            parts.addBoard(0, 5, 8);
        }

        void copyFrom(Game other) {
            for (int i = 0; i < RULE_ROOM; i++) {
                rules[i].copyFrom(other.rules[i]);
            }
            ruleMany = other.ruleMany;
            parts.copyFrom(other.parts);
            player = other.player;
            turnsNow = other.turnsNow;
            games = other.games;
            System.arraycopy(other.accounts, 0, accounts, 0, accounts.length);
            System.arraycopy(other.turns, 0, turns, 0, turns.length);
            turnsKept = other.turnsKept;
        }

        /** A rule that there is; the first one for any other number. */
        Rule ruleAt(int rule) {
            return rule >= 0 && rule < RULE_ROOM ? rules[rule] : rules[0];
        }

        /** The first of all reasons against a move on a part; 0 if there is none. */
        int reasonAgainst(int part, int k, int l) {
            if (k < 0 || l < 0 || k == 0 && l == 0) {
                return 1;
            }
            if (k > parts.firstOf(part) || l > parts.secondOf(part)) {
                return 2;
            }
            int kind = parts.kindOf(part);
            if (parts.isBoard(part)) {
                return ruleAt(kind).refusal(k, l);
            }
            return k > kind ? 3 : 0;
        }

        Rule addRule(long name) {
            Rule added = ruleAt(ruleMany);
            added.begin(name);
            ruleMany = Math.min(ruleMany + 1, RULE_ROOM);
            return added;
        }

        int ruleNamed(long name) {
            for (int i = 0; i < ruleMany && i < RULE_ROOM; i++) {
                if (rules[i].name == name) {
                    return i;
                }
            }
            return NONE;
        }

        int accountOf(int ofPlayer, int what) {
            int place = ofPlayer * ACCOUNTS + what;
            return place >= 0 && place < accounts.length ? accounts[place] : 0;
        }

        /** For the player who has the turn. */
        void addToAccount(int what, int sum) {
            int place = player * ACCOUNTS + what;
            if (place >= 0 && place < accounts.length) {
                accounts[place] += sum;
            }
        }

        int turnNumber(int index, int what) {
            int place = index * TURN_NUMBERS + what;
            return place >= 0 && place < turns.length ? turns[place] : NONE;
        }

        /** For the player who has the turn. */
        void keepTurn(int part, int k, int l, int total) {
            System.arraycopy(turns, 0, turns, TURN_NUMBERS, turns.length - TURN_NUMBERS);
            turns[0] = player;
            turns[1] = part;
            turns[2] = k;
            turns[3] = l;
            turns[4] = total;
            turnsKept = Math.min(turnsKept + 1, TURN_ROOM);
        }
    }

    /** A move that was looked for. */
    private static final class Hint {
        private boolean isThere = false;
        private boolean wins = false;
        private int part = NONE;
        private int k = NONE;
        private int l = NONE;
    }

    /** The tables of a game's rules, and what they tell of parts. */
    private static final class Mix {
        private final Table[] tables = new Table[RULE_ROOM];
        private final Hint anyMove = new Hint();

        Mix() {
            for (int i = 0; i < RULE_ROOM; i++) {
                tables[i] = new Table();
            }
        }

        void fit(Game game) {
            for (int board = 0; board < game.parts.boards; board++) {
                int rule = game.parts.kindOf(board);
                tableAt(rule).fit(game.ruleAt(rule));
            }
        }

        /** The table of a rule that there is; the first one for any other number. */
        Table tableAt(int rule) {
            return rule >= 0 && rule < RULE_ROOM ? tables[rule] : tables[0];
        }

        int valueOf(Parts parts, int part) {
            int first = parts.firstOf(part);
            int kind = parts.kindOf(part);
            return parts.isBoard(part) ? tableAt(kind).valueAt(first, parts.secondOf(part)) : stickValue(first, kind);
        }

        private static int stickValue(int length, int limit) {
            int period = limit + 1;
            return period > 0 ? length % period : 0;
        }

        int totalOf(Parts parts) {
            int total = 0;
            for (int part = 0; part < parts.many(); part++) {
                total ^= valueOf(parts, part);
            }
            return total;
        }

        /** How many moves on a part lead to a VALUE of this part. */
        int movesTo(Parts parts, int part, int target) {
            int first = parts.firstOf(part);
            int kind = parts.kindOf(part);
            if (parts.isBoard(part)) {
                return tableAt(kind).movesTo(first, parts.secondOf(part), target);
            }
            int many = 0;
            for (int k = 1; k <= kind && k <= first; k++) {
                if (target == ANY || stickValue(first - k, kind) == target) {
                    many++;
                }
            }
            return many;
        }

        int winningMoves(Parts parts, int part) {
            return movesTo(parts, part, totalOf(parts) ^ valueOf(parts, part));
        }

        int allMoves(Parts parts) {
            int sum = 0;
            for (int part = 0; part < parts.many(); part++) {
                sum += movesTo(parts, part, ANY);
            }
            return sum;
        }

        int allWinningMoves(Parts parts) {
            int sum = 0;
            for (int part = 0; part < parts.many(); part++) {
                sum += winningMoves(parts, part);
            }
            return sum;
        }

        boolean isOver(Parts parts) {
            for (int part = 0; part < parts.many(); part++) {
                if (findMove(parts, part, ANY, anyMove)) {
                    return false;
                }
            }
            return true;
        }

        private boolean findMove(Parts parts, int part, int target, Hint found) {
            int first = parts.firstOf(part);
            int kind = parts.kindOf(part);
            if (parts.isBoard(part)) {
                return tableAt(kind).findMove(first, parts.secondOf(part), target, found);
            }
            for (int k = 1; k <= kind && k <= first; k++) {
                if (target == ANY || stickValue(first - k, kind) == target) {
                    found.k = k;
                    found.l = 0;
                    return true;
                }
            }
            return false;
        }

        void advise(Parts parts, Hint found) {
            int total = totalOf(parts);
            // With TOTAL 0 no move is winning, otherwise there is a winning one: so one look over the parts finds it.
            found.isThere = false;
            found.wins = total != 0;
            for (int part = 0; part < parts.many() && !found.isThere; part++) {
                int target = total == 0 ? ANY : total ^ valueOf(parts, part);
                found.part = part;
                found.isThere = findMove(parts, part, target, found);
            }
        }
    }

    /** The games as they were ahead of the latest changes. */
    private static final class History {
        private final Game[] games = new Game[CHANGE_ROOM];
        private int next = 0;
        private int many = 0;

        History() {
            for (int i = 0; i < CHANGE_ROOM; i++) {
                games[i] = new Game();
            }
        }

        void clear() {
            many = 0;
        }

        /** The oldest one gives its place away if all places are used. */
        void push(Game game) {
            if (next >= 0 && next < CHANGE_ROOM) {
                games[next].copyFrom(game);
                next = (next + 1) % CHANGE_ROOM;
                many = Math.min(many + 1, CHANGE_ROOM);
            }
        }

        void pop(Game game) {
            int latest = (next + CHANGE_ROOM - 1) % CHANGE_ROOM;
            if (many > 0 && latest >= 0) {
                game.copyFrom(games[latest]);
                next = latest;
                many--;
            }
        }
    }

    /** Reads a text token by token. */
    private static final class Tokens {
        private static final int END = 0;
        private static final int WORD = 1;
        private static final int NUMBER = 2;
        private static final int SEMICOLON = 3;
        /** A byte of no token, or a number that is too long. */
        private static final int WRONG = 4;
        private static final int MOST_DIGITS = 3;

        private int[] text = new int[0];
        private int length = 0;
        /** Of the token that is looked at: its kind, its first byte, and the byte behind it. */
        private int kind = END;
        private int start = 0;
        private int behind = 0;
        /** What a number of at most three digits tells. */
        private int number = 0;

        void begin(int[] newText, int newLength) {
            text = newText;
            length = Math.min(newLength, newText.length);
            behind = 0;
            advance();
        }

        private int byteAt(int place) {
            return place >= 0 && place < length && place < text.length ? text[place] : NONE;
        }

        private static boolean isLetter(int sign) {
            return sign >= 'a' && sign <= 'z';
        }

        private static boolean isDigit(int sign) {
            return sign >= '0' && sign <= '9';
        }

        /** Goes on to the next token. */
        void advance() {
            start = behind;
            while (start < length && (byteAt(start) == ' ' || byteAt(start) == '\n')) {
                start++;
            }
            behind = start;
            int sign = byteAt(start);
            if (start >= length) {
                kind = END;
            } else if (isLetter(sign)) {
                kind = WORD;
                while (behind < length && isLetter(byteAt(behind))) {
                    behind++;
                }
            } else if (isDigit(sign)) {
                number = 0;
                while (behind < length && isDigit(byteAt(behind))) {
                    number = behind - start < MOST_DIGITS ? number * 10 + byteAt(behind) - '0' : number;
                    behind++;
                }
                kind = behind - start <= MOST_DIGITS ? NUMBER : WRONG;
            } else {
                kind = sign == ';' ? SEMICOLON : WRONG;
                behind = start + 1;
            }
        }

        boolean isWord(String word) {
            if (kind != WORD || behind - start != word.length()) {
                return false;
            }
            for (int i = 0; i < word.length(); i++) {
                if (byteAt(start + i) != word.charAt(i)) {
                    return false;
                }
            }
            return true;
        }

        boolean isName() {
            return kind == WORD && behind - start <= NAME_ROOM;
        }

        /** The name that is looked at, packed as a rule keeps it. */
        long name() {
            long name = 0;
            for (int i = 0; i < NAME_ROOM && start + i < behind; i++) {
                name |= (long) (byteAt(start + i) - 'a' + 1) << i * LETTER_BITS;
            }
            return name;
        }

        static long packed(String word) {
            long name = 0;
            for (int i = 0; i < NAME_ROOM && i < word.length(); i++) {
                name |= (long) (word.charAt(i) - 'a' + 1) << i * LETTER_BITS;
            }
            return name;
        }
    }

    /** Reads a setup text into a game of its own; its methods tell whether there is no error yet. */
    private static final class Loader {
        private final Tokens tokens = new Tokens();
        private final Game loaded = new Game();
        private boolean isFirstTold = false;
        private int error = NO_ERROR;
        private int errorAt = NONE;

        int read(int[] text, int length) {
            loaded.clear();
            isFirstTold = false;
            error = NO_ERROR;
            errorAt = NONE;
            tokens.begin(text, length);
            boolean isFine = true;
            // Each statement takes a byte at least.
            for (int i = 0; i < length && isFine && tokens.kind != Tokens.END; i++) {
                if (tokens.isWord("rule")) {
                    isFine = readRule();
                } else if (tokens.isWord("board")) {
                    isFine = readBoard();
                } else if (tokens.isWord("stick")) {
                    isFine = readStick();
                } else if (tokens.isWord("first")) {
                    isFine = readFirst();
                } else {
                    isFine = fail(SYNTAX);
                }
                isFine = isFine && readSemicolon();
            }
            if (isFine && loaded.ruleMany == 0) {
                fail(SYNTAX);
            }
            return error;
        }

        private boolean fail(int code) {
            error = code;
            errorAt = tokens.start;
            return false;
        }

        private boolean readSemicolon() {
            if (tokens.kind != Tokens.SEMICOLON) {
                return fail(SYNTAX);
            }
            tokens.advance();
            return true;
        }

        private boolean readRule() {
            if (loaded.ruleMany >= RULE_ROOM) {
                return fail(TOO_MANY);
            }
            tokens.advance();
            if (!tokens.isName()) {
                return fail(SYNTAX);
            }
            if (loaded.ruleNamed(tokens.name()) != NONE) {
                return fail(REPEATED);
            }
            Rule rule = loaded.addRule(tokens.name());
            tokens.advance();
            return readOnly(rule) && readSlack(rule) && readMost(rule) && readBars(rule);
        }

        private boolean readOnly(Rule rule) {
            if (!tokens.isWord("only")) {
                return true;
            }
            tokens.advance();
            boolean isFine = readNumberOfOnly(rule, 0);
            for (int many = 1; many <= ONLY_ROOM && isFine && tokens.kind == Tokens.NUMBER; many++) {
                isFine = readNumberOfOnly(rule, many);
            }
            return isFine;
        }

        private boolean readNumberOfOnly(Rule rule, int ahead) {
            if (!isNumber(1, GREATEST_HEAP)) {
                return false;
            }
            int number = tokens.number;
            if (rule.hasOnly(number)) {
                return fail(REPEATED);
            }
            if (ahead >= ONLY_ROOM) {
                return fail(TOO_MANY);
            }
            rule.addOnly(number);
            tokens.advance();
            return true;
        }

        private boolean readSlack(Rule rule) {
            if (!tokens.isWord("slack")) {
                return true;
            }
            tokens.advance();
            rule.slack = readNumber(0, GREATEST_SLACK);
            return error == NO_ERROR;
        }

        private boolean readMost(Rule rule) {
            if (!tokens.isWord("most")) {
                return true;
            }
            tokens.advance();
            rule.most = readNumber(1, GREATEST_MOST);
            return error == NO_ERROR;
        }

        private boolean readBars(Rule rule) {
            for (int i = 0; i <= BAR_ROOM && tokens.isWord("bar"); i++) {
                if (rule.bars >= BAR_ROOM) {
                    return fail(TOO_MANY);
                }
                tokens.advance();
                int k = readNumber(0, GREATEST_HEAP);
                if (error != NO_ERROR || !isNumber(0, GREATEST_HEAP)) {
                    return false;
                }
                int l = tokens.number;
                if (k == 0 && l == 0) {
                    return fail(OUT_OF_RANGE);
                }
                if (rule.isBarred(k, l)) {
                    return fail(REPEATED);
                }
                rule.setBarred(k, l, true);
                tokens.advance();
            }
            return true;
        }

        private boolean readBoard() {
            if (loaded.parts.boards >= BOARD_ROOM) {
                return fail(TOO_MANY);
            }
            tokens.advance();
            if (!tokens.isName()) {
                return fail(SYNTAX);
            }
            int rule = loaded.ruleNamed(tokens.name());
            if (rule == NONE) {
                return fail(UNKNOWN);
            }
            tokens.advance();
            int first = readNumber(0, GREATEST_HEAP);
            int second = readNumber(0, GREATEST_HEAP);
            loaded.parts.addBoard(rule, first, second);
            return error == NO_ERROR;
        }

        private boolean readStick() {
            if (loaded.parts.sticks >= STICK_ROOM) {
                return fail(TOO_MANY);
            }
            tokens.advance();
            int stickLength = readNumber(0, GREATEST_LENGTH);
            int limit = readNumber(1, GREATEST_LIMIT);
            loaded.parts.addStick(stickLength, limit);
            return error == NO_ERROR;
        }

        private boolean readFirst() {
            if (isFirstTold) {
                return fail(REPEATED);
            }
            isFirstTold = true;
            tokens.advance();
            loaded.player = readNumber(0, PLAYERS - 1);
            return error == NO_ERROR;
        }

        /** Whether the token that is looked at is a number within its range. */
        private boolean isNumber(int least, int greatest) {
            if (tokens.kind != Tokens.NUMBER) {
                return fail(SYNTAX);
            }
            int number = tokens.number;
            if (number < least || number > greatest) {
                return fail(OUT_OF_RANGE);
            }
            return true;
        }

        /** Reads a number and goes on to the next token; 0 if there is an error already, or now. */
        private int readNumber(int least, int greatest) {
            if (error != NO_ERROR || !isNumber(least, greatest)) {
                return 0;
            }
            int number = tokens.number;
            tokens.advance();
            return number;
        }
    }

    /** The bytes that were written. */
    private static final class Output {
        private final int[] bytes = new int[OUTPUT_ROOM];
        private int length = 0;

        void clear() {
            length = 0;
        }

        void put(int sign) {
            if (length < OUTPUT_ROOM) {
                bytes[length] = sign;
                length++;
            }
        }

        void putWord(String word) {
            for (int i = 0; i < word.length(); i++) {
                put(word.charAt(i));
            }
        }

        void putName(long name) {
            for (int i = 0; i < NAME_ROOM && letterOf(name, i) != 0; i++) {
                put('a' + letterOf(name, i) - 1);
            }
        }

        /** A number of at most two digits, as all are that are written. */
        void putNumber(int number) {
            if (number >= 10) {
                put('0' + number / 10);
            }
            put('0' + number % 10);
        }

        void putSpaced(int number) {
            put(' ');
            putNumber(number);
        }

        int byteAt(int index) {
            return index >= 0 && index < length && index < OUTPUT_ROOM ? bytes[index] : NONE;
        }
    }
}
