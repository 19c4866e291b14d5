import java.math.BigInteger;
import java.util.ArrayDeque;
import java.util.ArrayList;
import java.util.Deque;
import java.util.HashMap;
import java.util.HashSet;
import java.util.List;
import java.util.Map;
import java.util.NoSuchElementException;
import java.util.Set;
import java.util.TreeSet;
import java.util.regex.Matcher;
import java.util.regex.Pattern;

/** The document once more, as its definitions say it, without a thought of speed: what random runs are compared with. */
final class Model {
    private static final class Rule {
        String name;
        TreeSet<Integer> only = new TreeSet<>();
        int slack = 1;
        int most = 40;
        List<List<Integer>> bars = new ArrayList<>();

        Rule copy() {
            Rule copy = new Rule();
            copy.name = name;
            copy.only = new TreeSet<>(only);
            copy.slack = slack;
            copy.most = most;
            copy.bars = new ArrayList<>(bars);
            return copy;
        }

        int reason(int k, int l) {
            if (k > most || l > most) return 4;
            if (k == 0 && !only.isEmpty() && !only.contains(l)) return 5;
            if (l == 0 && !only.isEmpty() && !only.contains(k)) return 5;
            if (k > 0 && l > 0 && Math.max(k, l) - Math.min(k, l) >= slack) return 6;
            return bars.contains(List.of(k, l)) ? 7 : 0;
        }

        boolean allows(int k, int l) {
            return !(k == 0 && l == 0) && reason(k, l) == 0;
        }

        String key() {
            return only + " " + slack + " " + most + " " + new HashSet<>(bars);
        }

        boolean free() {
            return only.isEmpty() && most == 40 && slack > 0 && bars.isEmpty();
        }
    }

    private static final class Table {
        int[][] value = new int[41][41];
        int[][] span = new int[41][41];

        Table(Rule rule) {
            for (int x = 0; x <= 40; x++) {
                for (int y = 0; y <= 40; y++) {
                    settle(rule, x, y);
                }
            }
        }

        void settle(Rule rule, int x, int y) {
            Set<Integer> reached = new HashSet<>();
            TreeSet<Integer> spans = new TreeSet<>();
            TreeSet<Integer> losingSpans = new TreeSet<>();
            for (int k = 0; k <= x; k++) {
                for (int l = 0; l <= y; l++) {
                    if (rule.allows(k, l)) {
                        reached.add(value[x - k][y - l]);
                        spans.add(span[x - k][y - l]);
                        if (value[x - k][y - l] == 0) losingSpans.add(span[x - k][y - l]);
                    }
                }
            }
            while (reached.contains(value[x][y])) value[x][y]++;
            if (!spans.isEmpty()) span[x][y] = 1 + (value[x][y] == 0 ? spans.last() : losingSpans.first());
        }

        int losing() {
            int sum = 0;
            for (int p = 0; p < 1681; p++) if (value[p / 41][p % 41] == 0) sum++;
            return sum;
        }
    }

    private static final Map<String, Table> TABLES = new HashMap<>();

    private static Table table(Rule rule) {
        return TABLES.computeIfAbsent(rule.key(), key -> new Table(rule));
    }

    private record Part(boolean board, int kind, int x, int y, int toldX, int toldY) {
        Part less(int k, int l) {
            return new Part(board, kind, x - k, y - l, toldX, toldY);
        }
    }

    private record Move(int part, int k, int l) {
    }

    private static final class State {
        List<Rule> rules = new ArrayList<>();
        List<Part> parts = new ArrayList<>();
        int player = 0;
        int turns = 0;
        int games = 1;
        int[][] accounts = new int[2][5];
        List<int[]> kept = new ArrayList<>();

        State copy() {
            State copy = new State();
            for (Rule rule : rules) copy.rules.add(rule.copy());
            copy.parts = new ArrayList<>(parts);
            copy.player = player;
            copy.turns = turns;
            copy.games = games;
            copy.accounts = new int[][] {accounts[0].clone(), accounts[1].clone()};
            copy.kept = new ArrayList<>(kept);
            return copy;
        }
    }

    private State state;
    private final StringBuilder input = new StringBuilder();
    private String output = "";
    private int error = 0;
    private int errorAt = -1;
    private final Deque<State> undo = new ArrayDeque<>();
    private final State[] slots = new State[2];

    Model() {
        state = new Parser("rule plain; board plain 5 8;").parse();
    }

    // ---- setup text

    private static final class Wrong extends RuntimeException {
        final int code;
        final int at;

        Wrong(int code, int at) {
            this.code = code;
            this.at = at;
        }
    }

    private static final class Parser {
        final List<String> tokens = new ArrayList<>();
        final List<Integer> starts = new ArrayList<>();
        int at = 0;
        final State into = new State();
        final List<Part> sticks = new ArrayList<>();
        boolean first = false;

        Parser(String text) {
            Matcher m = Pattern.compile("[a-z]+|[0-9]+|[^ \n]").matcher(text);
            while (m.find()) {
                tokens.add(m.group());
                starts.add(m.start());
            }
            tokens.add("");
            starts.add(text.length());
        }

        String token() {
            return tokens.get(at);
        }

        Wrong wrong(int code) {
            return new Wrong(code, starts.get(at));
        }

        State parse() {
            while (!token().isEmpty()) statement();
            if (into.rules.isEmpty()) throw wrong(1);
            into.parts.addAll(sticks);
            return into;
        }

        void statement() {
            switch (token()) {
                case "rule" -> rule();
                case "board" -> board();
                case "stick" -> {
                    if (sticks.size() == 4) throw wrong(5);
                    at++;
                    int length = number(0, 60);
                    sticks.add(new Part(false, number(1, 9), length, 0, length, 0));
                }
                case "first" -> {
                    if (first) throw wrong(4);
                    first = true;
                    at++;
                    into.player = number(0, 1);
                }
                default -> throw wrong(1);
            }
            if (!token().equals(";")) throw wrong(1);
            at++;
        }

        void rule() {
            if (into.rules.size() == 4) throw wrong(5);
            at++;
            Rule rule = new Rule();
            if (!token().matches("[a-z]{1,8}")) throw wrong(1);
            for (Rule told : into.rules) if (told.name.equals(token())) throw wrong(4);
            rule.name = token();
            at++;
            if (token().equals("only")) {
                at++;
                do {
                    int n = look(1, 40);
                    if (rule.only.contains(n)) throw wrong(4);
                    if (rule.only.size() == 8) throw wrong(5);
                    rule.only.add(n);
                    at++;
                } while (!token().matches("[a-z]+|;"));
            }
            if (token().equals("slack")) {
                at++;
                rule.slack = number(0, 5);
            }
            if (token().equals("most")) {
                at++;
                rule.most = number(1, 40);
            }
            while (token().equals("bar")) {
                if (rule.bars.size() == 4) throw wrong(5);
                at++;
                int k = number(0, 40);
                int l = look(0, 40);
                if (k + l == 0) throw wrong(2);
                if (rule.bars.contains(List.of(k, l))) throw wrong(4);
                rule.bars.add(List.of(k, l));
                at++;
            }
            into.rules.add(rule);
        }

        void board() {
            if (into.parts.size() == 4) throw wrong(5);
            at++;
            if (!token().matches("[a-z]{1,8}")) throw wrong(1);
            int found = -1;
            for (int i = 0; i < into.rules.size(); i++) if (into.rules.get(i).name.equals(token())) found = i;
            if (found < 0) throw wrong(3);
            at++;
            int x = number(0, 40);
            int y = number(0, 40);
            into.parts.add(new Part(true, found, x, y, x, y));
        }

        int look(int least, int greatest) {
            if (!token().matches("[0-9]{1,3}")) throw wrong(1);
            int n = Integer.parseInt(token());
            if (n < least || n > greatest) throw wrong(2);
            return n;
        }

        int number(int least, int greatest) {
            int n = look(least, greatest);
            at++;
            return n;
        }
    }

    int appendInput(int a, int b, int c, int d, int e) {
        if (input.length() > 580) return -1;
        for (int four : new int[] {a, b, c, d, e}) {
            input.append((char) (four >>> 24)).append((char) (four >>> 16 & 255));
            input.append((char) (four >>> 8 & 255)).append((char) (four & 255));
        }
        return input.length();
    }

    /** Appends a text in twenties, the last one filled up with zeros. */
    void appendText(String text) {
        for (int i = 0; i < text.length(); i += 20) {
            byte[] twenty = new byte[20];
            for (int j = 0; j < 20 && i + j < text.length(); j++) twenty[j] = (byte) text.charAt(i + j);
            appendInput(Check.four(twenty, 0), Check.four(twenty, 4), Check.four(twenty, 8), Check.four(twenty, 12),
                Check.four(twenty, 16));
        }
    }

    boolean truncateInput(int length) {
        if (length < 0 || length > input.length()) return false;
        input.setLength(length);
        return true;
    }

    int loadHeaps() {
        String text = input.toString();
        input.setLength(0);
        try {
            state = new Parser(text).parse();
        } catch (Wrong e) {
            error = e.code;
            errorAt = e.at;
            return -1;
        }
        error = 0;
        errorAt = -1;
        undo.clear();
        slots[0] = null;
        slots[1] = null;
        return state.parts.size();
    }

    int errorCode() {
        return error;
    }

    int errorOffset() {
        return errorAt;
    }

    // ---- what the terms say

    private int valueOf(Part part) {
        return part.board ? table(state.rules.get(part.kind)).value[part.x][part.y] : part.x % (part.kind + 1);
    }

    private int total() {
        int total = 0;
        for (Part part : state.parts) total ^= valueOf(part);
        return total;
    }

    private int reason(int index, int k, int l) {
        Part part = state.parts.get(index);
        if (k < 0 || l < 0 || k == 0 && l == 0) return 1;
        if (k > part.x || l > part.y) return 2;
        if (!part.board) return k > part.kind ? 3 : 0;
        return state.rules.get(part.kind).reason(k, l);
    }

    private List<Move> movesOf(int index) {
        List<Move> moves = new ArrayList<>();
        for (int k = 0; k <= state.parts.get(index).x; k++) {
            for (int l = 0; l <= state.parts.get(index).y; l++) {
                if (reason(index, k, l) == 0) moves.add(new Move(index, k, l));
            }
        }
        return moves;
    }

    private int behind(Move move) {
        Part part = state.parts.get(move.part);
        return total() ^ valueOf(part) ^ valueOf(part.less(move.k, move.l));
    }

    private List<Move> winning(List<Move> moves) {
        List<Move> winning = new ArrayList<>();
        for (Move move : moves) if (behind(move) == 0) winning.add(move);
        return winning;
    }

    private List<Move> allMoves() {
        List<Move> moves = new ArrayList<>();
        for (int i = 0; i < state.parts.size(); i++) moves.addAll(movesOf(i));
        return moves;
    }

    private Move advised() {
        List<Move> moves = allMoves();
        if (moves.isEmpty()) return null;
        List<Move> winning = winning(moves);
        return winning.isEmpty() ? moves.get(0) : winning.get(0);
    }

    private Rule need(int rule) {
        if (rule < 0 || rule >= state.rules.size()) throw new IndexOutOfBoundsException();
        return state.rules.get(rule);
    }

    private Part needPart(int part) {
        if (part < 0 || part >= state.parts.size()) throw new IndexOutOfBoundsException();
        return state.parts.get(part);
    }

    private static void range(boolean fits) {
        if (!fits) throw new IllegalArgumentException();
    }

    private static boolean heap(int n) {
        return n >= 0 && n <= 40;
    }

    // ---- answers

    int count(int what) {
        List<Part> parts = state.parts;
        return switch (what) {
            case 0 -> state.rules.size();
            case 1 -> (int) parts.stream().filter(Part::board).count();
            case 2 -> (int) parts.stream().filter(p -> !p.board).count();
            case 3 -> state.player;
            case 4 -> state.turns;
            case 5 -> total();
            case 6 -> allMoves().size();
            case 7 -> winning(allMoves()).size();
            case 8 -> allMoves().isEmpty() ? 1 : 0;
            case 9 -> state.games;
            case 10 -> undo.size();
            case 11 -> parts.stream().mapToInt(p -> p.x + p.y).sum();
            case 12 -> state.kept.size();
            default -> throw new IllegalArgumentException();
        };
    }

    int account(int player, int what) {
        if (player != 0 && player != 1) throw new IndexOutOfBoundsException();
        range(what >= 0 && what <= 4);
        return state.accounts[player][what];
    }

    int turn(int index, int what) {
        if (index < 0 || index >= state.kept.size()) throw new IndexOutOfBoundsException();
        range(what >= 0 && what <= 4);
        return state.kept.get(index)[what];
    }

    int rule(int rule, int what) {
        Rule r = need(rule);
        range(what >= 0 && what <= 8);
        Table table = table(r);
        int value = 0;
        int span = 0;
        for (int p = 0; p < 1681; p++) {
            value = Math.max(value, table.value[p / 41][p % 41]);
            span = Math.max(span, table.span[p / 41][p % 41]);
        }
        int boards = (int) state.parts.stream().filter(p -> p.board && p.kind == rule).count();
        return new int[] {r.slack, r.most, r.only.size(), r.bars.size(), r.free() ? 1 : 0, value, table.losing(), boards,
            span}[what];
    }

    int only(int rule, int index) {
        List<Integer> only = new ArrayList<>(need(rule).only);
        return index >= 0 && index < only.size() ? only.get(index) : -1;
    }

    int barred(int rule, int index, boolean second) {
        List<List<Integer>> bars = need(rule).bars;
        return index >= 0 && index < bars.size() ? bars.get(index).get(second ? 1 : 0) : -1;
    }

    int ruleLetter(int rule, int index) {
        String name = need(rule).name;
        return index >= 0 && index < name.length() ? name.charAt(index) - 'a' + 1 : 0;
    }

    int part(int part, int what) {
        Part p = needPart(part);
        range(what >= 0 && what <= 8);
        return switch (what) {
            case 0 -> p.board ? 0 : 1;
            case 1 -> p.kind;
            case 2 -> p.x;
            case 3 -> p.board ? p.y : -1;
            case 4 -> valueOf(p);
            case 5 -> movesOf(part).size();
            case 6 -> winning(movesOf(part)).size();
            case 7 -> p.toldX;
            default -> p.board ? p.toldY : -1;
        };
    }

    boolean allows(int rule, int k, int l) {
        Rule r = need(rule);
        range(heap(k) && heap(l));
        return r.allows(k, l);
    }

    int whyNot(int part, int k, int l) {
        needPart(part);
        return reason(part, k, l);
    }

    int value(int rule, int x, int y) {
        Rule r = need(rule);
        range(heap(x) && heap(y));
        return table(r).value[x][y];
    }

    int span(int rule, int x, int y) {
        Rule r = need(rule);
        range(heap(x) && heap(y));
        return table(r).span[x][y];
    }

    int losing(int rule, int index, boolean second) {
        Table table = table(need(rule));
        List<Integer> found = new ArrayList<>();
        for (int x = 0; x <= 40; x++) for (int y = 0; y <= 40; y++) if (table.value[x][y] == 0) found.add(second ? y : x);
        return index >= 0 && index < found.size() ? found.get(index) : -1;
    }

    int partner(int rule, int x) {
        Table table = table(need(rule));
        range(heap(x));
        int found = -1;
        for (int y = 40; y >= 0; y--) if (table.value[x][y] == 0) found = y;
        return found;
    }

    static BigInteger a(int slack, BigInteger n) {
        BigInteger root = n.multiply(n).multiply(BigInteger.valueOf(slack * slack + 4)).sqrt();
        return n.multiply(BigInteger.valueOf(2 - slack)).add(root).shiftRight(1);
    }

    static long number(int slack, long n, boolean second) {
        return a(slack, BigInteger.valueOf(n)).longValueExact() + (second ? slack * n : 0);
    }

    int golden(int slack, int n, boolean second) {
        range(slack >= 1 && slack <= 5 && n >= 0 && n <= 100000000);
        return Math.toIntExact(number(slack, n, second));
    }

    /** The row of a number and its n, from about where they must be. */
    private static long[] look(int slack, int v) {
        double alpha = (2 - slack + Math.sqrt(slack * slack + 4)) / 2;
        for (int row = 0; row < 2; row++) {
            long about = (long) (v / (alpha + row * slack));
            for (long n = Math.max(1, about - 3); n <= about + 3; n++) {
                if (number(slack, n, row == 1) == v) return new long[] {row, n};
            }
        }
        throw new AssertionError("each number is in one of the rows");
    }

    int goldenOf(int slack, int v) {
        range(slack >= 1 && slack <= 5 && v >= 1 && v <= 500000000);
        long[] found = look(slack, v);
        return Math.toIntExact(2 * found[1] + found[0]);
    }

    long goldenPartner(int slack, int v) {
        range(slack >= 1 && slack <= 5 && v >= 1 && v <= 500000000);
        long[] found = look(slack, v);
        return number(slack, found[1], found[0] == 0);
    }

    int goldenMany(int slack, int most) {
        range(slack >= 1 && slack <= 5 && most >= 0 && most <= 500000000);
        double beta = (2 + slack + Math.sqrt(slack * slack + 4)) / 2;
        long many = Math.max(0, (long) (most / beta) - 3);
        while (number(slack, many + 1, true) <= most) many++;
        return (int) many;
    }

    private static List<int[]> summands(int v) {
        List<Integer> row = new ArrayList<>(List.of(1, 2));
        while (row.get(row.size() - 1) <= 500000000) row.add(row.get(row.size() - 1) + row.get(row.size() - 2));
        List<int[]> found = new ArrayList<>();
        int rest = v;
        while (rest > 0) {
            int place = 0;
            while (row.get(place + 1) <= rest) place++;
            found.add(new int[] {row.get(place), place});
            rest -= row.get(place);
        }
        return found;
    }

    int summand(int v, int index) {
        range(v >= 1 && v <= 500000000);
        List<int[]> found = summands(v);
        return index >= 0 && index < found.size() ? found.get(index)[0] : -1;
    }

    int leastPlace(int v) {
        range(v >= 1 && v <= 500000000);
        List<int[]> found = summands(v);
        return found.get(found.size() - 1)[1];
    }

    int gap(int rule) {
        Rule r = need(rule);
        if (!r.free()) return -1;
        Set<List<Integer>> golden = new HashSet<>();
        Set<Integer> used = new HashSet<>();
        golden.add(List.of(0, 0));
        for (int n = 1; n <= 41; n++) {
            int a = 1;
            while (used.contains(a)) a++;
            int b = a + r.slack * n;
            used.add(a);
            used.add(b);
            golden.add(List.of(a, b));
            golden.add(List.of(b, a));
        }
        int gap = 0;
        for (int p = 0; p < 1681; p++) {
            if ((table(r).value[p / 41][p % 41] == 0) != golden.contains(List.of(p / 41, p % 41))) gap++;
        }
        return gap;
    }

    int advice(int what) {
        range(what >= 0 && what <= 3);
        Move move = advised();
        if (move == null) return -1;
        return new int[] {move.part, move.k, move.l, behind(move) == 0 ? 1 : 0}[what];
    }

    int turnsIn() {
        State real = state;
        state = real.copy();
        int turns = 0;
        for (Move move = advised(); move != null; move = advised()) {
            make(move);
            turns++;
        }
        state = real;
        return turns;
    }

    int winner() {
        State real = state;
        state = real.copy();
        int last = 1 - state.player;
        for (Move move = advised(); move != null; move = advised()) {
            last = state.player;
            make(move);
        }
        state = real;
        return last;
    }

    int totalBehind(int part, int k, int l) {
        needPart(part);
        return reason(part, k, l) == 0 ? behind(new Move(part, k, l)) : -1;
    }

    int changedBy(int rule, int k, int l) {
        Rule r = need(rule);
        range(heap(k) && heap(l) && k + l > 0);
        Rule other = r.copy();
        if (!other.bars.remove(List.of(k, l))) other.bars.add(List.of(k, l));
        int changed = 0;
        for (int p = 0; p < 1681; p++) {
            boolean is = table(r).value[p / 41][p % 41] == 0;
            if (is != (table(other).value[p / 41][p % 41] == 0)) changed++;
        }
        return changed;
    }

    int losingWith(int rule, int slack) {
        Rule other = need(rule).copy();
        range(slack >= 0 && slack <= 5);
        other.slack = slack;
        return table(other).losing();
    }

    float share(int rule) {
        return (float) table(need(rule)).losing() / 1681f;
    }

    double meanValue(int rule) {
        int sum = 0;
        for (int[] row : table(need(rule)).value) for (int value : row) sum += value;
        return (double) sum / 1681.0;
    }

    // ---- changes

    private void change() {
        undo.addLast(state.copy());
        if (undo.size() > 8) undo.removeFirst();
    }

    private int make(Move move) {
        List<Move> winning = winning(allMoves());
        int total = behind(move);
        int[] accounts = state.accounts[state.player];
        state.parts.set(move.part, state.parts.get(move.part).less(move.k, move.l));
        accounts[0]++;
        accounts[1] += move.k + move.l;
        if (allMoves().isEmpty()) accounts[2]++;
        if (winning.contains(move)) accounts[3]++;
        else if (!winning.isEmpty()) accounts[4]++;
        state.kept.add(0, new int[] {state.player, move.part, move.k, move.l, total});
        if (state.kept.size() > 20) state.kept.remove(20);
        state.turns++;
        state.player = 1 - state.player;
        return total;
    }

    int move(int part, int k, int l) {
        needPart(part);
        if (reason(part, k, l) != 0) throw new IllegalStateException();
        change();
        return make(new Move(part, k, l));
    }

    int follow(int turns) {
        range(turns >= 1 && turns <= 600);
        change();
        int made = 0;
        for (Move move = advised(); move != null && made < turns; move = advised()) {
            make(move);
            made++;
        }
        return made;
    }

    int bar(int rule, int k, int l, boolean is) {
        Rule r = need(rule);
        range(heap(k) && heap(l) && k + l > 0);
        List<Integer> move = List.of(k, l);
        if (is && !r.bars.contains(move) && r.bars.size() == 4) throw new IllegalStateException();
        change();
        if (is && !r.bars.contains(move)) r.bars.add(move);
        if (!is) r.bars.remove(move);
        return r.bars.size();
    }

    int setSlack(int rule, int slack) {
        Rule r = need(rule);
        range(slack >= 0 && slack <= 5);
        change();
        int before = r.slack;
        r.slack = slack;
        return before;
    }

    int setMost(int rule, int most) {
        Rule r = need(rule);
        range(most >= 1 && most <= 40);
        change();
        int before = r.most;
        r.most = most;
        return before;
    }

    int again(int first) {
        if (first != 0 && first != 1) throw new IndexOutOfBoundsException();
        change();
        state.parts.replaceAll(p -> new Part(p.board, p.kind, p.toldX, p.toldY, p.toldX, p.toldY));
        state.player = first;
        state.turns = 0;
        state.games++;
        return total();
    }

    int undo() {
        if (undo.isEmpty()) throw new NoSuchElementException();
        state = undo.removeLast();
        return undo.size();
    }

    // ---- output and snapshots

    int printParts() {
        List<String> words = new ArrayList<>();
        for (Part p : state.parts) {
            words.add(p.board ? state.rules.get(p.kind).name + ":" + p.x + "," + p.y : p.x + "/" + p.kind);
        }
        output = String.join(" ", words);
        return output.length();
    }

    int printRule(int rule) {
        Rule r = need(rule);
        StringBuilder text = new StringBuilder("rule " + r.name);
        if (!r.only.isEmpty()) text.append(" only");
        for (int n : r.only) text.append(" ").append(n);
        text.append(" slack ").append(r.slack).append(" most ").append(r.most);
        for (List<Integer> bar : r.bars) text.append(" bar ").append(bar.get(0)).append(" ").append(bar.get(1));
        output = text.toString();
        return output.length();
    }

    int outputByte(int index) {
        return index >= 0 && index < output.length() ? output.charAt(index) : -1;
    }

    int keep(int slot) {
        range(slot == 0 || slot == 1);
        slots[slot] = state.copy();
        return state.turns;
    }

    int bringBack(int slot) {
        range(slot == 0 || slot == 1);
        if (slots[slot] == null) throw new NoSuchElementException();
        state = slots[slot].copy();
        undo.clear();
        return state.turns;
    }
}
