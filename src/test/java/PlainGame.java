import java.util.ArrayList;
import java.util.Arrays;
import java.util.HashSet;
import java.util.List;
import java.util.Set;
import java.util.TreeSet;

/**
 * The document once more, in its slowest and plainest form: nothing is kept that could be found
 * anew, every CODE is tried by itself. ComparedTest holds the program against it.
 */
final class PlainGame {
    static final int NONE = -1;

    record State(List<Integer> points, int turn) {
        int on(int p) {
            return points.get(p);
        }

        long count(int side) {
            return points.stream().filter(v -> v == side + 1).count();
        }

        State with(int p, int v) {
            List<Integer> changed = new ArrayList<>(points);
            changed.set(p, v);
            return new State(List.copyOf(changed), turn);
        }

        State turned() {
            return new State(points, 1 - turn);
        }
    }

    record Game(State start, List<Integer> moves, int out) {
    }

    record Tie(int kind, int p, int q) {
    }

    record Row(int sort, long[] elements) {
    }

    record Image(Set<Tie> ties, List<Integer> rules, List<Game> games, State now) {
    }

    private static final State EMPTY = new State(List.of(0, 0, 0, 0, 0, 0, 0, 0, 0, 0, 0, 0), 0);

    private final Object[] shelves = new Object[8];
    private Set<Tie> ties = new HashSet<>();
    private List<Integer> rules = new ArrayList<>();
    private List<Game> games = new ArrayList<>();
    private State now = EMPTY;
    private int latestFault = NONE;
    private List<Integer> bodies = new ArrayList<>();
    private final int[] refusals = new int[8];
    private Image image;

    private int refuse(int number) {
        return refuse(number, number);
    }

    private int refuse(int number, int told) {
        refusals[-number]++;
        return told;
    }

    private static boolean in(int i, int from, int to) {
        return from <= i && i <= to;
    }

    // ---- shelves

    int row(int s, int sort, int n) {
        if (!in(s, 0, 7)) return refuse(-1);
        if (n < 0) return refuse(-4);
        if (!in(sort, 0, 3)) return refuse(-6);
        if (n > 60) return refuse(-7);
        shelves[s] = new Row(sort, new long[n]);
        return 1;
    }

    int set(int s, int i, long v) {
        if (!in(s, 0, 7)) return refuse(-1);
        if (shelves[s] instanceof Integer) return refuse(-2);
        if (shelves[s] == null) return refuse(-3);
        Row row = (Row) shelves[s];
        if (!in(i, 0, row.elements.length - 1)) return refuse(-5);
        int[] unused = {56, 48, 32, 0};
        row.elements[i] = v << unused[row.sort] >> unused[row.sort];
        return 1;
    }

    int copy(int p, int q, int i, int j, int n) {
        if (!in(p, 0, 7) || !in(q, 0, 7)) return refuse(-1);
        if (shelves[p] instanceof Integer || shelves[q] instanceof Integer) return refuse(-2);
        if (shelves[p] != null && shelves[q] != null && ((Row) shelves[p]).sort != ((Row) shelves[q]).sort) {
            return refuse(-2);
        }
        if (shelves[p] == null || shelves[q] == null) return refuse(-3);
        if (n < 0) return refuse(-4);
        long[] from = ((Row) shelves[p]).elements;
        long[] to = ((Row) shelves[q]).elements;
        if (i < 0 || j < 0 || (long) i + n > from.length || (long) j + n > to.length) return refuse(-5);
        long[] ahead = from.clone();
        for (int k = 0; k < n; k++) to[j + k] = ahead[i + k];
        return 1;
    }

    long element(int s, int i) {
        return in(s, 0, 7) && shelves[s] instanceof Row row && in(i, 0, row.elements.length - 1)
            ? row.elements[i] : 0;
    }

    int show(int s, int rule) {
        if (!in(s, 0, 7) || !in(rule, -1, rules.size() - 1)) return refuse(-1);
        shelves[s] = rule == NONE ? null : Integer.valueOf(rule);
        return rule == NONE ? 0 : 1;
    }

    int holds(int s) {
        if (!in(s, 0, 7) || shelves[s] == null) return NONE;
        return shelves[s] instanceof Row row ? 100 + row.sort : (Integer) shelves[s];
    }

    int says(int s, int kind) {
        if (!in(s, 0, 7) || !in(kind, 0, 7)) return refuse(-1);
        if (shelves[s] instanceof Row) return refuse(-2);
        if (shelves[s] == null) return refuse(-3);
        int code = rules.get((Integer) shelves[s]);
        int is = kindOf(code);
        if (kind != 0 && kind != is && !(kind == 1 && is == 2)) return refuse(-2);
        return switch (kind) {
            case 0 -> code;
            case 1, 2 -> List.of(1, 2, 4, 8, 16, 32).indexOf(code) % 3;
            case 6 -> code / 1024;
            case 7 -> parts(code).size();
            default -> priceOf(code);
        };
    }

    // ---- ties and rules

    int tie(int p, int q, int kind, boolean is) {
        if (!in(p, 0, 11) || !in(q, 0, 11) || !in(kind, 0, 2)) return refuse(-1);
        if (p == q) return refuse(-6);
        Tie tie = new Tie(kind, Math.min(p, q), Math.max(p, q));
        return (is ? ties.add(tie) : ties.remove(tie)) ? 1 : 0;
    }

    private boolean tied(int kind, int p, int q) {
        return ties.contains(new Tie(kind, Math.min(p, q), Math.max(p, q)));
    }

    int tied(int p, int kind) {
        if (!in(p, 0, 11) || !in(kind, 0, 2)) return refuse(-1);
        int bits = 0;
        for (int q = 0; q < 12; q++) bits += tied(kind, p, q) ? 1 << q : 0;
        return bits;
    }

    private static final List<String> WORDS = List.of("step 0", "step 1", "step 2", "jump 0", "jump 1",
        "jump 2", "put", "take", "must", "end none", "end 1", "end 2", "end 3");

    private static int bitsOf(String word) {
        int i = WORDS.indexOf(word);
        return i < 10 ? 1 << i : (i - 9) * 1024;
    }

    /** The PARTS of a CODE, as words. */
    private static List<String> parts(int code) {
        List<String> parts = new ArrayList<>();
        for (String word : WORDS) {
            int bits = bitsOf(word);
            if (bits < 1024 ? (code & bits) != 0 : code / 1024 == bits / 1024) parts.add(word);
        }
        return parts;
    }

    private static int priceOf(int code) {
        int price = 0;
        for (String part : parts(code)) {
            if (part.startsWith("jump")) price += 3;
            else if (part.equals("take") || part.equals("must") || part.equals("end none")) price += 1;
            else price += 2;
        }
        return price;
    }

    private static int kindOf(int code) {
        List<String> parts = parts(code);
        if (parts.size() > 1) return 7;
        return List.of("RULE", "step", "jump", "put", "take", "must", "end").indexOf(parts.get(0).split(" ")[0]);
    }

    /** Whether a text can go on to be a RULE, as far as single PARTS are told apart. */
    private static boolean canStand(String text) {
        int cut = text.lastIndexOf(';');
        String tail = text.substring(cut + 1);
        boolean begun = WORDS.stream().anyMatch(word -> word.startsWith(tail));
        if (cut < 0) return begun;
        return begun && Arrays.stream(text.substring(0, cut).split(";", -1)).allMatch(WORDS::contains);
    }

    private static boolean isTwice(String text) {
        String[] words = text.split(";", -1);
        String last = words[words.length - 1];
        if (!WORDS.contains(last)) return false;
        for (int i = 0; i < words.length - 1; i++) {
            if (words[i].equals(last)) return true;
            if (bitsOf(words[i]) >= 1024 && bitsOf(last) >= 1024) return true;
        }
        return false;
    }

    /** The CODE of a text; -1 less the FAULT if it is none. */
    private static int read(int[] letters) {
        String text = "";
        for (int i = 0; i < letters.length; i++) {
            text += letters[i] >= 0 && letters[i] < 256 ? String.valueOf((char) letters[i]) : "\u2603";
            if (!canStand(text) || isTwice(text)) return -1 - i;
        }
        int code = 0;
        for (String word : text.split(";", -1)) {
            if (!WORDS.contains(word)) return -1 - letters.length;
            code |= bitsOf(word);
        }
        return code;
    }

    private int[] ints(int s) {
        return Arrays.stream(((Row) shelves[s]).elements).mapToInt(v -> (int) v).toArray();
    }

    int rule(int s) {
        if (!in(s, 0, 7)) return refuse(-1);
        if (shelves[s] instanceof Integer) return refuse(-2);
        if (shelves[s] == null) return refuse(-3);
        int code = read(ints(s));
        latestFault = code < 0 ? -1 - code : NONE;
        if (code < 0) return refuse(-6);
        if (rules.size() == 8) return refuse(-7);
        rules.add(code);
        return rules.size() - 1;
    }

    int fault() {
        return latestFault;
    }

    int ruleOf(int rule, int what) {
        if (!in(rule, 0, rules.size() - 1) || !in(what, 0, 2)) return refuse(-5);
        int code = rules.get(rule);
        return what == 0 ? code : what == 1 ? kindOf(code) : priceOf(code);
    }

    int price(int code) {
        return in(code, 1, 4095) ? priceOf(code) : refuse(-1);
    }

    // ---- states

    private boolean isMove(int move) {
        if (in(move, 240, 251)) return true;
        return move >= 0 && in(move / 16, 0, 11) && in(move % 16, 0, 11) && move / 16 != move % 16;
    }

    private boolean letAsStep(State state, int code, int from, int to) {
        if (state.on(from) != state.turn + 1 || state.on(to) != 0) return false;
        for (int kind = 0; kind < 3; kind++) {
            if ((code >> kind) % 2 == 1 && tied(kind, from, to)) return true;
        }
        return false;
    }

    /** The POINTS over which it is let as a JUMP. */
    private TreeSet<Integer> overs(State state, int code, int from, int to) {
        TreeSet<Integer> overs = new TreeSet<>();
        if (state.on(from) != state.turn + 1 || state.on(to) != 0) return overs;
        for (int kind = 0; kind < 3; kind++) {
            for (int over = 0; over < 12; over++) {
                if ((code >> 3 + kind) % 2 == 1 && state.on(over) == 2 - state.turn
                        && tied(kind, from, over) && tied(kind, over, to)) {
                    overs.add(over);
                }
            }
        }
        return overs;
    }

    private boolean letsAJump(State state, int code) {
        for (int from = 0; from < 12; from++) {
            for (int to = 0; to < 12; to++) {
                if (from != to && !overs(state, code, from, to).isEmpty()) return true;
            }
        }
        return false;
    }

    /** 0 not let, 1 as a STEP, 2 as a JUMP, 3 as a PUT; whether it is OVER is not asked. */
    private int letAs(State state, int code, int move, boolean jumpsAlone) {
        if (!isMove(move)) return 0;
        if (move >= 240) return !jumpsAlone && (code & 64) != 0 && state.on(move - 240) == 0 ? 3 : 0;
        if (!jumpsAlone && letAsStep(state, code, move / 16, move % 16)) return 1;
        return overs(state, code, move / 16, move % 16).isEmpty() ? 0 : 2;
    }

    private TreeSet<Integer> let(State state, int code) {
        boolean jumpsAlone = (code & 256) != 0 && letsAJump(state, code);
        TreeSet<Integer> let = new TreeSet<>();
        for (int move = 0; move < 256; move++) {
            if (letAs(state, code, move, jumpsAlone) != 0) let.add(move);
        }
        return let;
    }

    private int winner(State state, int code) {
        boolean few = state.count(state.turn) < code / 1024;
        boolean stuck = (code & 512) != 0 && let(state, code).isEmpty();
        return few || stuck ? 1 - state.turn : NONE;
    }

    private TreeSet<Integer> lawful(State state, int code) {
        return winner(state, code) == NONE ? let(state, code) : new TreeSet<>();
    }

    private State done(State state, int code, int move) {
        if (move >= 240) return state.with(move - 240, state.turn + 1).turned();
        int from = move / 16;
        int to = move % 16;
        State next = state.with(to, state.on(from)).with(from, 0);
        if (lawful(state, code).contains(move) && (code & 128) != 0) {
            boolean jumpsAlone = (code & 256) != 0 && letsAJump(state, code);
            if (letAs(state, code, move, jumpsAlone) == 2) next = next.with(overs(state, code, from, to).first(), 0);
        }
        return next.turned();
    }

    int point(int p, int v) {
        if (!in(p, 0, 11)) return refuse(-1);
        if (!in(v, 0, 2)) return refuse(-6);
        int was = now.on(p);
        now = now.with(p, v);
        return was;
    }

    int turn(int v) {
        if (!in(v, 0, 1)) return refuse(-6);
        int was = now.turn;
        now = new State(now.points, v);
        return was;
    }

    int moves(int code) {
        return in(code, 1, 4095) ? lawful(now, code).size() : refuse(-1);
    }

    int move(int code, int i) {
        if (!in(code, 1, 4095)) return refuse(-5);
        List<Integer> all = new ArrayList<>(lawful(now, code));
        return in(i, 0, all.size() - 1) ? all.get(i) : refuse(-5);
    }

    int over(int code) {
        return in(code, 1, 4095) ? winner(now, code) : refuse(-1, -11);
    }

    int play(int code, int move) {
        if (!in(code, 1, 4095)) return refuse(-1);
        if (!lawful(now, code).contains(move)) return refuse(-6);
        now = done(now, code, move);
        return (int) (now.count(0) + now.count(1));
    }

    private int valueOf(State state, int code, int n) {
        if (winner(state, code) != NONE) return -1;
        if (n == 0) return 0;
        return lawful(state, code).stream().mapToInt(move -> -valueOf(done(state, code, move), code, n - 1))
            .max().orElse(0);
    }

    int value(int code, int n) {
        if (!in(code, 1, 4095)) return refuse(-1, -11);
        return in(n, 0, 3) ? valueOf(now, code, n) : refuse(-6, -16);
    }

    int best(int code, int n) {
        if (!in(code, 1, 4095)) return refuse(-1, -11);
        if (!in(n, 1, 3)) return refuse(-6, -16);
        int value = valueOf(now, code, n);
        return lawful(now, code).stream()
            .filter(move -> -valueOf(done(now, code, move), code, n - 1) == value).findFirst().orElse(NONE);
    }

    // ---- games

    int game(int s, int t, int n, int out) {
        if (!in(s, 0, 7) || !in(t, 0, 7)) return refuse(-1);
        if (shelves[s] instanceof Integer || shelves[t] instanceof Integer) return refuse(-2);
        if (shelves[s] == null || shelves[t] == null) return refuse(-3);
        if (n < 0) return refuse(-4);
        if (ints(s).length < 12 || ints(t).length < n) return refuse(-5);
        if (n > 20 || !in(out, -1, 1)) return refuse(-6);
        State start = EMPTY;
        for (int p = 0; p < 12; p++) {
            if (!in(ints(s)[p], 0, 2)) return refuse(-6);
            start = start.with(p, ints(s)[p]);
        }
        List<Integer> moves = new ArrayList<>();
        for (int k = 0; k < n; k++) {
            if (!isMove(ints(t)[k])) return refuse(-6);
            moves.add(ints(t)[k]);
        }
        if (games.size() == 6) return refuse(-7);
        games.add(new Game(start, moves, out));
        return games.size() - 1;
    }

    int gameOf(int game, int what) {
        if (!in(game, 0, games.size() - 1)) return refuse(-5);
        Game g = games.get(game);
        if (what == 0) return g.moves.size();
        if (what == 1) return g.out;
        if (in(what, 100, 99 + g.moves.size())) return g.moves.get(what - 100);
        return in(what, 200, 211) ? g.start.on(what - 200) : refuse(-5);
    }

    private State ahead(Game game, int k, int code) {
        State state = game.start;
        for (int move : game.moves.subList(0, k)) state = done(state, code, move);
        return state;
    }

    int load(int game, int k, int code) {
        if (!in(game, 0, games.size() - 1) || !in(code, 1, 4095)) return refuse(-1);
        if (!in(k, 0, games.get(game).moves.size())) return refuse(-6);
        now = ahead(games.get(game), k, code);
        return now.turn;
    }

    private boolean wentOutSo(Game game, int code) {
        return winner(ahead(game, game.moves.size(), code), code) == game.out;
    }

    private int failsAt(Game game, int code) {
        for (int k = 0; k < game.moves.size(); k++) {
            if (!lawful(ahead(game, k, code), code).contains(game.moves.get(k))) return k;
        }
        return wentOutSo(game, code) ? NONE : game.moves.size();
    }

    int judge(int game, int code) {
        if (!in(game, 0, games.size() - 1) || !in(code, 1, 4095)) return refuse(-1, -11);
        return failsAt(games.get(game), code);
    }

    private List<Integer> fitting() {
        List<Integer> fitting = new ArrayList<>();
        for (int code = 1; code < 4096; code++) {
            boolean all = true;
            for (Game game : games) all = all && failsAt(game, code) == NONE;
            if (all) fitting.add(code);
        }
        fitting.sort((a, b) -> priceOf(a) != priceOf(b) ? priceOf(a) - priceOf(b) : a - b);
        return fitting;
    }

    private List<Integer> rivalsBy(int x) {
        List<Integer> fitting = fitting();
        if (fitting.isEmpty()) return fitting;
        int least = priceOf(fitting.get(0));
        return fitting.stream().filter(code -> priceOf(code) <= least + x).toList();
    }

    int find() {
        List<Integer> fitting = fitting();
        return fitting.isEmpty() ? refuse(-5) : fitting.get(0);
    }

    int fits() {
        return fitting().size();
    }

    int rivals(int x) {
        return in(x, 0, 9) ? rivalsBy(x).size() : refuse(-6);
    }

    int rival(int x, int i) {
        if (!in(x, 0, 9)) return refuse(-5);
        List<Integer> rivals = rivalsBy(x);
        return in(i, 0, rivals.size() - 1) ? rivals.get(i) : refuse(-5);
    }

    private int widthOf(int code) {
        int wide = 0;
        for (Game game : games) {
            for (int k = 0; k < game.moves.size(); k++) wide += lawful(ahead(game, k, code), code).size();
        }
        return wide;
    }

    int wide(int code) {
        return in(code, 1, 4095) ? widthOf(code) : refuse(-1);
    }

    int tight() {
        int tight = NONE;
        int least = Integer.MAX_VALUE;
        for (int code : rivalsBy(9)) {
            int wide = widthOf(code);
            if (wide < least) {
                least = wide;
                tight = code;
            }
        }
        return tight == NONE ? refuse(-5) : tight;
    }

    int part(int code, int other) {
        if (!in(code, 1, 4095) || !in(other, 1, 4095)) return refuse(-1, -11);
        for (int g = 0; g < games.size(); g++) {
            for (int k = 0; k < games.get(g).moves.size(); k++) {
                State seen = ahead(games.get(g), k, code);
                if (!lawful(seen, code).equals(lawful(seen, other))) return 100 * g + k;
            }
        }
        return NONE;
    }

    int sure(int move, int x) {
        if (fitting().isEmpty()) return refuse(-5);
        if (!in(x, 0, 9) || !isMove(move)) return refuse(-6);
        Set<Boolean> answers = new HashSet<>();
        for (int code : rivalsBy(x)) answers.add(lawful(now, code).contains(move));
        return answers.size() == 2 ? 2 : answers.contains(true) ? 1 : 0;
    }

    private int[] asked(int x) {
        int[] letting = new int[256];
        List<Integer> rivals = rivalsBy(x);
        for (int code : rivals) {
            for (int move : lawful(now, code)) letting[move]++;
        }
        int[] asked = {NONE, 0};
        for (int move = 0; move < 256; move++) {
            int not = rivals.size() - letting[move];
            int greater = Math.max(letting[move], not);
            if (letting[move] > 0 && not > 0 && (asked[0] == NONE || greater < asked[1])) {
                asked = new int[] {move, greater};
            }
        }
        return asked;
    }

    int ask(int x) {
        return in(x, 0, 9) ? asked(x)[0] : refuse(-6, -16);
    }

    int left(int x) {
        return in(x, 0, 9) ? asked(x)[1] : refuse(-6);
    }

    private int faulty(int code) {
        int faulty = 0;
        for (Game game : games) {
            for (int k = 0; k < game.moves.size(); k++) {
                faulty += lawful(ahead(game, k, code), code).contains(game.moves.get(k)) ? 0 : 1;
            }
            faulty += wentOutSo(game, code) ? 0 : 1;
        }
        return faulty;
    }

    int cheat(int price, int what) {
        if (!in(price, 1, 25) || !in(what, 0, 1)) return refuse(-6);
        int cheat = 0;
        int least = Integer.MAX_VALUE;
        for (int code = 1; code < 4096; code++) {
            if (priceOf(code) > price) continue;
            int faulty = faulty(code);
            if (faulty < least) {
                least = faulty;
                cheat = code;
            }
        }
        return what == 0 ? least : cheat;
    }

    int same(int code, int other) {
        if (!in(code, 1, 4095) || !in(other, 1, 4095)) return refuse(-1, -11);
        String[] ways = {"012", "021", "102", "120", "201", "210"};
        for (int way = 0; way < 6; way++) {
            Set<String> named = new HashSet<>();
            for (String part : parts(code)) {
                boolean hasKind = part.startsWith("step") || part.startsWith("jump");
                named.add(hasKind ? part.substring(0, 5) + ways[way].charAt(part.charAt(5) - '0') : part);
            }
            if (named.equals(new HashSet<>(parts(other)))) return way;
        }
        return NONE;
    }

    // ---- acts, the image, the counts

    /** The RULE's bodies as the document writes them, in classes under one another. */
    private class Acting {
        final int m;
        final int k;

        Acting(int m) {
            this.m = m;
            this.k = priceOf(rules.get(m));
        }

        int goes(int x) {
            bodies.add(10);
            return x + m;
        }

        int lets(int x) {
            bodies.add(11);
            return goes(x) * 2;
        }

        int ends(int x) {
            bodies.add(12);
            return lets(x) ^ goes(x - k);
        }
    }

    private class Step extends Acting {
        Step(int m) {
            super(m);
        }

        @Override
        int goes(int x) {
            bodies.add(20);
            return super.goes(x) * 3;
        }
    }

    private final class Jump extends Step {
        Jump(int m) {
            super(m);
        }

        @Override
        int goes(int x) {
            bodies.add(30);
            return super.goes(x + 1);
        }

        @Override
        int lets(int x) {
            bodies.add(31);
            return super.lets(x) - k;
        }
    }

    private final class Put extends Acting {
        Put(int m) {
            super(m);
        }

        @Override
        int lets(int x) {
            bodies.add(40);
            return -super.lets(x);
        }
    }

    private final class Take extends Acting {
        Take(int m) {
            super(m);
        }

        @Override
        int ends(int x) {
            bodies.add(50);
            return super.ends(x) + m;
        }
    }

    private final class Must extends Acting {
        Must(int m) {
            super(m);
        }

        @Override
        int lets(int x) {
            bodies.add(60);
            return super.lets(x) ^ 9;
        }
    }

    private final class End extends Acting {
        End(int m) {
            super(m);
        }

        @Override
        int ends(int x) {
            bodies.add(70);
            return super.ends(x) * 2;
        }
    }

    private final class Joined extends Acting {
        Joined(int m) {
            super(m);
        }

        @Override
        int goes(int x) {
            bodies.add(80);
            return super.goes(x) - 7;
        }

        @Override
        int ends(int x) {
            bodies.add(81);
            return super.ends(x + k);
        }
    }

    int act(int rule, int act, int x) {
        bodies = new ArrayList<>();
        if (!in(rule, 0, rules.size() - 1) || !in(act, 0, 2)) return 0;
        Acting acting = switch (kindOf(rules.get(rule))) {
            case 1 -> new Step(rule);
            case 2 -> new Jump(rule);
            case 3 -> new Put(rule);
            case 4 -> new Take(rule);
            case 5 -> new Must(rule);
            case 6 -> new End(rule);
            default -> new Joined(rule);
        };
        return act == 0 ? acting.goes(x) : act == 1 ? acting.lets(x) : acting.ends(x);
    }

    int trace(int i) {
        return in(i, 0, Math.min(20, bodies.size()) - 1) ? bodies.get(i) : NONE;
    }

    int image() {
        image = new Image(Set.copyOf(ties), List.copyOf(rules), List.copyOf(games), now);
        return games.size();
    }

    int restore() {
        if (image == null) return refuse(-6);
        ties = new HashSet<>(image.ties);
        rules = new ArrayList<>(image.rules);
        games = new ArrayList<>(image.games);
        now = image.now;
        for (int s = 0; s < 8; s++) {
            if (shelves[s] instanceof Integer rule && rule >= rules.size()) shelves[s] = null;
        }
        return games.size();
    }

    int status(int what) {
        if (in(what, 11, 17)) return refusals[what - 10];
        return switch (what) {
            case 0 -> rules.size();
            case 1 -> games.size();
            case 2 -> games.stream().mapToInt(game -> game.moves.size()).sum();
            case 3 -> ties.size();
            case 4 -> (int) (now.count(0) + now.count(1));
            case 5 -> now.turn;
            case 6 -> bodies.size();
            default -> NONE;
        };
    }
}
