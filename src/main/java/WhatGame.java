import java.util.Arrays;

/** A board, rules read from texts, games written down: which rules allow all that was played. */
public final class WhatGame {
    public static final int NONE = -1;

    // The refusals.
    private static final int NOBODY = -1;
    private static final int OTHER = -2;
    private static final int NOTHING = -3;
    private static final int BELOW = -4;
    private static final int BEYOND = -5;
    private static final int WRONG = -6;
    private static final int ROOM = -7;
    // Where -1 and -6 could be answers, what is refused answers these, and counts as -1 and -6.
    private static final int NOBODY_TOLD = -11;
    private static final int WRONG_TOLD = -16;

    private static final int SHELVES = 8;
    private static final int SORTS = 4;
    private static final int LONGEST_ROW = 60;
    private static final int ROW_HELD = 100;
    private static final int MOST_RULES = 8;
    private static final int MOST_GAMES = 6;
    private static final int MOST_MOVES = 20;
    private static final int MOST_KEPT_BODIES = 20;
    private static final int WIDEST_X = 9;
    private static final int HIGHEST_CHEAT_PRICE = 25;
    private static final int FARTHEST_LOOK = 3;

    private static final int POINTS = 12;
    private static final int TIE_KINDS = 3;
    private static final int ALL_POINTS = 4095;
    /** Where a put comes from, so that a put is a MOVE like others: 16 times 15 and the POINT. */
    private static final int HAND = 15;

    // The PARTS of a CODE.
    private static final int CODES = 4096;
    private static final int STEPS = 7;
    private static final int JUMPS = 56;
    private static final int PUT = 64;
    private static final int TAKE = 128;
    private static final int MUST = 256;
    private static final int END_NONE = 512;
    /** What of a CODE says which MOVES are let, and how they are DONE; the rest are its ends. */
    private static final int BASES = 512;
    private static final int END_WAYS = 8;

    // The KINDS of RULES.
    private static final int KIND_RULE = 0;
    private static final int KIND_STEP = 1;
    private static final int KIND_JUMP = 2;
    private static final int KIND_PUT = 3;
    private static final int KIND_TAKE = 4;
    private static final int KIND_MUST = 5;
    private static final int KIND_END = 6;
    private static final int KIND_JOINED = 7;

    /** What the KINDS 0, 1, 2 become, way by way. */
    private static final int[] WAYS = {0, 1, 2, 0, 2, 1, 1, 0, 2, 1, 2, 0, 2, 0, 1, 2, 1, 0};

    /** Of each SHELF: NONE, the number of a RULE, or ROW_HELD and the SORT of a ROW. */
    private final int[] held = new int[SHELVES];
    private final int[] sizes = new int[SHELVES];
    private final long[][] rows = new long[SHELVES][LONGEST_ROW];

    private final Rule[] rules = new Rule[MOST_RULES];
    private int ruleCount = 0;
    private int latestFault = NONE;
    /** How many bodies ran in the latest act(), and behind it the first of their numbers. */
    private final int[] ran = new int[1 + MOST_KEPT_BODIES];

    private final Fitting fitting = new Fitting();
    private final Games games = fitting.games;
    private final Board board = games.board;
    private int now = 0;
    private final int[] refused = new int[1 - ROOM];

    // THE IMAGE. RULES and GAMES are only ever added behind it, so that their counts tell them.
    private boolean imaged = false;
    private final int[] imageTies = new int[TIE_KINDS * POINTS];
    private int imageNow = 0;
    private int imageRules = 0;
    private int imageGames = 0;

    public WhatGame() {
        Arrays.fill(held, NONE);
    }

    // ---- shelves

    public int row(int s, int sort, int n) {
        if (!isShelf(s)) {
            return refuse(NOBODY);
        }
        if (n < 0) {
            return refuse(BELOW);
        }
        if (sort < 0 || sort >= SORTS) {
            return refuse(WRONG);
        }
        if (n > LONGEST_ROW) {
            return refuse(ROOM);
        }
        held[s] = ROW_HELD + sort;
        sizes[s] = n;
        Arrays.fill(rows[s], 0L);
        return 1;
    }

    public int set(int s, int i, long v) {
        int refusal = rowRefusal(s);
        if (refusal != 0) {
            return refuse(refusal);
        }
        if (i < 0 || i >= sizes[s]) {
            return refuse(BEYOND);
        }
        rows[s][i] = lowestBits(held[s] - ROW_HELD, v);
        return 1;
    }

    public int copy(int p, int q, int i, int j, int n) {
        int refusal = twoRowsRefusal(p, q);
        if (refusal == 0 && held[p] != held[q]) {
            refusal = OTHER;
        }
        if (refusal != 0) {
            return refuse(refusal);
        }
        if (n < 0) {
            return refuse(BELOW);
        }
        if (i < 0 || j < 0 || i > sizes[p] - n || j > sizes[q] - n) {
            return refuse(BEYOND);
        }
        System.arraycopy(rows[p], i, rows[q], j, n);
        return 1;
    }

    public long element(int s, int i) {
        if (rowRefusal(s) != 0 || i < 0 || i >= sizes[s]) {
            return 0L;
        }
        return rows[s][i];
    }

    public int show(int s, int rule) {
        if (!isShelf(s) || rule != NONE && !isRule(rule)) {
            return refuse(NOBODY);
        }
        held[s] = rule;
        return rule == NONE ? 0 : 1;
    }

    public int holds(int s) {
        return isShelf(s) ? held[s] : NONE;
    }

    public int says(int s, int kind) {
        if (!isShelf(s) || kind < KIND_RULE || kind > KIND_JOINED) {
            return refuse(NOBODY);
        }
        if (held[s] == NONE) {
            return refuse(NOTHING);
        }
        Rule shown = ruleAt(held[s]);
        if (shown == null || !shown.isOf(kind)) {
            return refuse(OTHER);
        }
        return shown.tells(kind);
    }

    private static boolean isShelf(int s) {
        return s >= 0 && s < SHELVES;
    }

    /** Why the SHELF can't be taken for a ROW; 0 if it can. */
    private int rowRefusal(int s) {
        if (!isShelf(s)) {
            return NOBODY;
        }
        if (held[s] == NONE) {
            return NOTHING;
        }
        return held[s] < ROW_HELD ? OTHER : 0;
    }

    /** Why two SHELVES can't be taken for ROWS, the first reason in the order of REFUSALS; 0 if they can. */
    private int twoRowsRefusal(int p, int q) {
        int first = rowRefusal(p);
        int second = rowRefusal(q);
        if (first == 0 || second == 0) {
            return first + second;
        }
        return Math.max(first, second);
    }

    private static long lowestBits(int sort, long v) {
        switch (sort) {
            case 0:
                return (byte) v;
            case 1:
                return (short) v;
            case 2:
                return (int) v;
            default:
                return v;
        }
    }

    private int asInt(int s, int i) {
        return (int) rows[s][i];
    }

    // ---- ties and rules

    public int tie(int p, int q, int kind, boolean is) {
        if (!isPoint(p) || !isPoint(q) || !isTieKind(kind)) {
            return refuse(NOBODY);
        }
        if (p == q) {
            return refuse(WRONG);
        }
        if (board.areTied(p, q, kind) == is) {
            return 0;
        }
        board.turnTie(p, q, kind);
        fitting.forget();
        return 1;
    }

    public int tied(int p, int kind) {
        if (!isPoint(p) || !isTieKind(kind)) {
            return refuse(NOBODY);
        }
        return board.tiesOf(p, kind);
    }

    public int rule(int s) {
        int refusal = rowRefusal(s);
        if (refusal != 0) {
            return refuse(refusal);
        }
        int code = Rule.read(rows[s], sizes[s]);
        latestFault = code < 0 ? -1 - code : NONE;
        if (code < 0) {
            return refuse(WRONG);
        }
        if (ruleCount >= MOST_RULES) {
            return refuse(ROOM);
        }
        rules[ruleCount] = new Rule(ruleCount, code, ran);
        ruleCount++;
        return ruleCount - 1;
    }

    public int fault() {
        return latestFault;
    }

    public int ruleOf(int rule, int what) {
        Rule asked = ruleAt(rule);
        if (asked == null || what < 0 || what > 2) {
            return refuse(BEYOND);
        }
        if (what == 0) {
            return asked.code;
        }
        return what == 1 ? asked.kind : asked.cost;
    }

    public int price(int code) {
        return isCode(code) ? Rule.priceOf(code) : refuse(NOBODY);
    }

    private static boolean isPoint(int p) {
        return p >= 0 && p < POINTS;
    }

    private static boolean isTieKind(int kind) {
        return kind >= 0 && kind < TIE_KINDS;
    }

    private static boolean isCode(int code) {
        return code >= 1 && code < CODES;
    }

    private boolean isRule(int rule) {
        return rule >= 0 && rule < ruleCount;
    }

    private Rule ruleAt(int rule) {
        return isRule(rule) ? rules[rule] : null;
    }

    // ---- the state NOW

    public int point(int p, int v) {
        if (!isPoint(p)) {
            return refuse(NOBODY);
        }
        if (v < 0 || v > 2) {
            return refuse(WRONG);
        }
        int was = Board.on(now, p);
        now = Board.with(now, p, v);
        return was;
    }

    public int turn(int v) {
        if (v < 0 || v > 1) {
            return refuse(WRONG);
        }
        int was = Board.side(now);
        if (was != v) {
            now = Board.turned(now);
        }
        return was;
    }

    public int moves(int code) {
        if (!isCode(code)) {
            return refuse(NOBODY);
        }
        return board.lawfulCount(now, board.live(now, code));
    }

    public int move(int code, int i) {
        if (!isCode(code)) {
            return refuse(BEYOND);
        }
        int found = board.lawfulAt(now, board.live(now, code), i);
        return found == NONE ? refuse(BEYOND) : found;
    }

    public int over(int code) {
        return isCode(code) ? board.winner(now, code) : refuseTold(NOBODY, NOBODY_TOLD);
    }

    public int play(int code, int move) {
        if (!isCode(code)) {
            return refuse(NOBODY);
        }
        int live = board.live(now, code);
        if (!Board.isMove(move) || !board.allows(now, live, move)) {
            return refuse(WRONG);
        }
        now = board.done(now, live, move);
        return Board.pieces(now);
    }

    public int value(int code, int n) {
        if (!isCode(code)) {
            return refuseTold(NOBODY, NOBODY_TOLD);
        }
        if (n < 0 || n > FARTHEST_LOOK) {
            return refuseTold(WRONG, WRONG_TOLD);
        }
        return board.valueOf(now, code, n);
    }

    public int best(int code, int n) {
        if (!isCode(code)) {
            return refuseTold(NOBODY, NOBODY_TOLD);
        }
        if (n < 1 || n > FARTHEST_LOOK) {
            return refuseTold(WRONG, WRONG_TOLD);
        }
        return board.bestOf(now, code, n);
    }

    // ---- games

    public int game(int s, int t, int n, int out) {
        int refusal = twoRowsRefusal(s, t);
        if (refusal != 0) {
            return refuse(refusal);
        }
        if (n < 0) {
            return refuse(BELOW);
        }
        if (sizes[s] < POINTS || sizes[t] < n) {
            return refuse(BEYOND);
        }
        if (n > MOST_MOVES || out < NONE || out > 1 || !isStart(s) || !areMoves(t, n)) {
            return refuse(WRONG);
        }
        if (games.count >= MOST_GAMES) {
            return refuse(ROOM);
        }
        fitting.forget();
        return games.add(startIn(s), rows[t], n, out);
    }

    public int gameOf(int game, int what) {
        if (games.has(game)) {
            if (what == 0) {
                return games.lengths[game];
            }
            if (what == 1) {
                return games.outs[game];
            }
            if (what >= 100 && what < 100 + games.lengths[game]) {
                return games.moveAt(game, what - 100);
            }
            if (what >= 200 && what < 200 + POINTS) {
                return Board.on(games.starts[game], what - 200);
            }
        }
        return refuse(BEYOND);
    }

    public int load(int game, int k, int code) {
        if (!games.has(game) || !isCode(code)) {
            return refuse(NOBODY);
        }
        if (k < 0 || k > games.lengths[game]) {
            return refuse(WRONG);
        }
        now = games.stateAhead(game, k, code);
        return Board.side(now);
    }

    public int judge(int game, int code) {
        if (!games.has(game) || !isCode(code)) {
            return refuseTold(NOBODY, NOBODY_TOLD);
        }
        return games.failsAt(game, code);
    }

    public int wide(int code) {
        return isCode(code) ? games.width(code) : refuse(NOBODY);
    }

    public int part(int code, int other) {
        if (!isCode(code) || !isCode(other)) {
            return refuseTold(NOBODY, NOBODY_TOLD);
        }
        return games.parting(code, other);
    }

    private boolean isStart(int s) {
        for (int p = 0; p < POINTS; p++) {
            int v = asInt(s, p);
            if (v < 0 || v > 2) {
                return false;
            }
        }
        return true;
    }

    private boolean areMoves(int t, int n) {
        for (int k = 0; k < n; k++) {
            if (!Board.isMove(asInt(t, k))) {
                return false;
            }
        }
        return true;
    }

    private int startIn(int s) {
        int state = 0;
        for (int p = 0; p < POINTS; p++) {
            state = Board.with(state, p, asInt(s, p));
        }
        return state;
    }

    // ---- which codes fit

    public int find() {
        return known().count == 0 ? refuse(BEYOND) : fitting.codes[0];
    }

    public int fits() {
        return known().count;
    }

    public int rivals(int x) {
        return isX(x) ? known().rivalCount(x) : refuse(WRONG);
    }

    public int rival(int x, int i) {
        if (!isX(x) || i < 0 || i >= known().rivalCount(x)) {
            return refuse(BEYOND);
        }
        return fitting.codes[i];
    }

    public int tight() {
        return known().count == 0 ? refuse(BEYOND) : fitting.tightest();
    }

    public int sure(int move, int x) {
        if (known().count == 0) {
            return refuse(BEYOND);
        }
        if (!isX(x) || !Board.isMove(move)) {
            return refuse(WRONG);
        }
        int letting = fitting.letting(now, x, move);
        if (letting == 0) {
            return 0;
        }
        return letting == fitting.rivalCount(x) ? 1 : 2;
    }

    public int ask(int x) {
        return isX(x) ? known().asked(now, x) : refuseTold(WRONG, WRONG_TOLD);
    }

    public int left(int x) {
        return isX(x) ? known().leftOver(now, x) : refuse(WRONG);
    }

    public int cheat(int price, int what) {
        if (price < 1 || price > HIGHEST_CHEAT_PRICE || what < 0 || what > 1) {
            return refuse(WRONG);
        }
        int code = fitting.cheatCode(price);
        return what == 0 ? games.faulty(code, Integer.MAX_VALUE) : code;
    }

    private Fitting known() {
        fitting.know();
        return fitting;
    }

    public int same(int code, int other) {
        if (!isCode(code) || !isCode(other)) {
            return refuseTold(NOBODY, NOBODY_TOLD);
        }
        for (int way = 0; way < WAYS.length / TIE_KINDS; way++) {
            if (renamed(code, way) == other) {
                return way;
            }
        }
        return NONE;
    }

    private static boolean isX(int x) {
        return x >= 0 && x <= WIDEST_X;
    }

    /** What the CODE becomes when its KINDS of TIES become others. */
    private static int renamed(int code, int way) {
        int becomes = code & ~(STEPS | JUMPS);
        for (int kind = 0; kind < TIE_KINDS; kind++) {
            int stepAndJump = code >> kind & 9;
            becomes |= stepAndJump << WAYS[way * TIE_KINDS + kind];
        }
        return becomes;
    }

    // ---- acts, the image, the counts

    public int act(int rule, int act, int x) {
        ran[0] = 0;
        Rule acting = ruleAt(rule);
        if (acting == null || act < 0 || act > 2) {
            return 0;
        }
        if (act == 0) {
            return acting.goes(x);
        }
        return act == 1 ? acting.lets(x) : acting.ends(x);
    }

    public int trace(int i) {
        if (i < 0 || i >= ran[0] || i >= MOST_KEPT_BODIES) {
            return NONE;
        }
        return ran[1 + i];
    }

    public int image() {
        imaged = true;
        System.arraycopy(board.ties, 0, imageTies, 0, imageTies.length);
        imageNow = now;
        imageRules = ruleCount;
        imageGames = games.count;
        return imageGames;
    }

    public int restore() {
        if (!imaged) {
            return refuse(WRONG);
        }
        System.arraycopy(imageTies, 0, board.ties, 0, imageTies.length);
        now = imageNow;
        ruleCount = imageRules;
        games.count = imageGames;
        fitting.forget();
        for (int s = 0; s < SHELVES; s++) {
            if (held[s] < ROW_HELD && !isRule(held[s])) {
                held[s] = NONE;
            }
        }
        return imageGames;
    }

    public int status(int what) {
        switch (what) {
            case 0:
                return ruleCount;
            case 1:
                return games.count;
            case 2:
                return games.moveCount();
            case 3:
                return board.tieCount();
            case 4:
                return Board.pieces(now);
            case 5:
                return Board.side(now);
            case 6:
                return ran[0];
            default:
                return what >= 11 && what < 10 + refused.length ? refused[what - 10] : NONE;
        }
    }

    /** Counts a refusal and answers its number. */
    private int refuse(int refusal) {
        return refuseTold(refusal, refusal);
    }

    /** Counts a refusal where its number is told in another way. */
    private int refuseTold(int refusal, int told) {
        refused[-refusal]++;
        return told;
    }

    /**
     * The ties, and what a CODE lets in a STATE. A STATE is one int, so that none is ever made
     * anew: bits 0 to 11 the POINTS with pieces of side 0, 12 to 23 those of side 1, 24 the TURN.
     */
    private static final class Board {
        private static final int TURN_AT = 24;

        /** By KIND and POINT, the POINTS tied to it. */
        private final int[] ties = new int[TIE_KINDS * POINTS];

        boolean areTied(int p, int q, int kind) {
            return (ties[kind * POINTS + p] >> q & 1) != 0;
        }

        int tiesOf(int p, int kind) {
            return ties[kind * POINTS + p];
        }

        void turnTie(int p, int q, int kind) {
            ties[kind * POINTS + p] ^= 1 << q;
            ties[kind * POINTS + q] ^= 1 << p;
        }

        int tieCount() {
            int ends = 0;
            for (int i = 0; i < ties.length; i++) {
                ends += Integer.bitCount(ties[i]);
            }
            return ends / 2;
        }

        static int side(int state) {
            return state >> TURN_AT & 1;
        }

        static int turned(int state) {
            return state ^ 1 << TURN_AT;
        }

        static int own(int state) {
            return state >> POINTS * (state >> TURN_AT & 1) & ALL_POINTS;
        }

        static int foes(int state) {
            return state >> POINTS * (~state >> TURN_AT & 1) & ALL_POINTS;
        }

        static int empty(int state) {
            return ALL_POINTS & ~(state | state >> POINTS);
        }

        static int pieces(int state) {
            return POINTS - Integer.bitCount(empty(state));
        }

        static int on(int state, int p) {
            return (state >> p & 1) + 2 * (state >> POINTS + p & 1);
        }

        static int with(int state, int p, int v) {
            int cleared = state & ~(1 << p | 1 << POINTS + p);
            return cleared | (v & 1) << p | (v >> 1 & 1) << POINTS + p;
        }

        static boolean isMove(int move) {
            int from = move >> 4;
            int to = move & 15;
            return isPoint(to) && (from == HAND || isPoint(from) && from != to);
        }

        /**
         * The PARTS of a CODE that let something in a STATE, and take: none when the TURN has too
         * few pieces, the jumps alone when one must be made.
         */
        int live(int state, int code) {
            if (isTooFew(state, code)) {
                return 0;
            }
            if ((code & MUST) != 0 && letsJump(state, code)) {
                return code & (JUMPS | TAKE);
            }
            return code & (STEPS | JUMPS | PUT | TAKE);
        }

        static boolean isTooFew(int state, int code) {
            return Integer.bitCount(own(state)) < (code >> 10 & 3);
        }

        private boolean letsStep(int state, int parts) {
            int own = own(state);
            int empty = empty(state);
            for (int kind = 0; kind < TIE_KINDS; kind++) {
                for (int p = 0; p < POINTS && (parts >> kind & 1) != 0; p++) {
                    if ((own >> p & 1) != 0 && (ties[kind * POINTS + p] & empty) != 0) {
                        return true;
                    }
                }
            }
            return false;
        }

        private boolean letsJump(int state, int parts) {
            int own = own(state);
            int foes = foes(state);
            int empty = empty(state);
            for (int kind = 0; kind < TIE_KINDS; kind++) {
                for (int q = 0; q < POINTS && (parts >> 3 + kind & 1) != 0; q++) {
                    int about = ties[kind * POINTS + q];
                    if ((foes >> q & 1) != 0 && (about & own) != 0 && (about & empty) != 0) {
                        return true;
                    }
                }
            }
            return false;
        }

        boolean letsAny(int state, int live) {
            return (live & PUT) != 0 && empty(state) != 0
                || letsStep(state, live) || letsJump(state, live);
        }

        /** The side that has WON in the STATE; NONE if it isn't OVER. */
        int winner(int state, int code) {
            boolean isOver = isTooFew(state, code)
                || (code & END_NONE) != 0 && !letsAny(state, live(state, code));
            return isOver ? 1 - side(state) : NONE;
        }

        /** The POINTS to which a MOVE from there (0 to 11, or HAND) is LAWFUL. */
        int targets(int state, int live, int from) {
            int empty = empty(state);
            if (from == HAND) {
                return (live & PUT) != 0 ? empty : 0;
            }
            if (!isPoint(from) || (own(state) >> from & 1) == 0) {
                return 0;
            }
            int found = 0;
            for (int kind = 0; kind < TIE_KINDS; kind++) {
                int about = ties[kind * POINTS + from];
                if ((live >> kind & 1) != 0) {
                    found |= about;
                }
                if ((live >> 3 + kind & 1) != 0) {
                    found |= behind(kind, about & foes(state));
                }
            }
            return found & empty;
        }

        private int behind(int kind, int over) {
            int found = 0;
            for (int q = 0; q < POINTS && over != 0; q++) {
                if ((over >> q & 1) != 0) {
                    found |= ties[kind * POINTS + q];
                }
            }
            return found;
        }

        int lawfulCount(int state, int live) {
            int count = 0;
            for (int from = 0; from <= HAND; from++) {
                count += Integer.bitCount(targets(state, live, from));
            }
            return count;
        }

        /** The i-th LAWFUL MOVE; NONE if there is none such. */
        int lawfulAt(int state, int live, int i) {
            int ahead = 0;
            for (int from = 0; from <= HAND; from++) {
                int targets = targets(state, live, from);
                for (int to = 0; to < POINTS; to++) {
                    if ((targets >> to & 1) != 0) {
                        if (ahead == i) {
                            return 16 * from + to;
                        }
                        ahead++;
                    }
                }
            }
            return NONE;
        }

        boolean letAlike(int state, int live, int others) {
            for (int from = 0; from <= HAND; from++) {
                if (targets(state, live, from) != targets(state, others, from)) {
                    return false;
                }
            }
            return true;
        }

        /** Whether a MOVE (that has POINTS) is LAWFUL. */
        boolean allows(int state, int live, int move) {
            int from = move >> 4;
            int to = move & 15;
            if (from == HAND) {
                return (live & PUT) != 0 && (empty(state) >> to & 1) != 0;
            }
            return (own(state) >> from & 1) != 0 && (empty(state) >> to & 1) != 0
                && (isStep(live, from, to) || jumpedOver(state, live, from, to) != 0);
        }

        private boolean isStep(int live, int from, int to) {
            for (int kind = 0; kind < TIE_KINDS; kind++) {
                if ((live >> kind & 1) != 0 && areTied(from, to, kind)) {
                    return true;
                }
            }
            return false;
        }

        /** The POINTS over which a jump is let, if from and to are as a MOVE needs them. */
        private int jumpedOver(int state, int live, int from, int to) {
            int found = 0;
            for (int kind = 0; kind < TIE_KINDS; kind++) {
                if ((live >> 3 + kind & 1) != 0) {
                    found |= tiesOf(from, kind) & tiesOf(to, kind);
                }
            }
            return found & foes(state);
        }

        /** The STATE after a MOVE (that has POINTS) is DONE, LAWFUL or not. */
        int done(int state, int live, int move) {
            int from = move >> 4;
            int to = move & 15;
            if (from == HAND) {
                return turned(with(state, to, 1 + side(state)));
            }
            int next = with(with(state, from, 0), to, on(state, from));
            if ((live & TAKE) != 0 && allows(state, live, move) && !isStep(live, from, to)) {
                int over = jumpedOver(state, live, from, to);
                int least = over & -over;
                next &= ~(least | least << POINTS);
            }
            return turned(next);
        }

        private int valueOf(int state, int code, int n) {
            // Without ends nothing is ever OVER.
            if (code < BASES) {
                return 0;
            }
            if (winner(state, code) != NONE) {
                return -1;
            }
            int move = n <= 0 ? NONE : bestOf(state, code, n);
            if (move == NONE) {
                return 0;
            }
            return -valueOf(done(state, live(state, code), move), code, n - 1);
        }

        /** The first of the LAWFUL MOVES behind which the other side's VALUE is least; NONE: there is none. */
        private int bestOf(int state, int code, int n) {
            int live = live(state, code);
            int best = NONE;
            int least = 2;
            for (int from = 0; from <= HAND && least > -1; from++) {
                int targets = targets(state, live, from);
                for (int to = 0; to < POINTS && least > -1; to++) {
                    if ((targets >> to & 1) != 0) {
                        int move = 16 * from + to;
                        int value = valueOf(done(state, live, move), code, n - 1);
                        if (value < least) {
                            least = value;
                            best = move;
                        }
                    }
                }
            }
            return best;
        }
    }

    /** The GAMES that were written down, and how they go by a CODE. */
    private static final class Games {
        private final Board board = new Board();
        private final int[] starts = new int[MOST_GAMES];
        private final int[] lengths = new int[MOST_GAMES];
        private final int[] outs = new int[MOST_GAMES];
        private final int[] played = new int[MOST_GAMES * MOST_MOVES];
        private int count = 0;

        boolean has(int game) {
            return game >= 0 && game < count;
        }

        int add(int start, long[] moves, int n, int out) {
            starts[count] = start;
            lengths[count] = n;
            outs[count] = out;
            for (int k = 0; k < n; k++) {
                played[count * MOST_MOVES + k] = (int) moves[k];
            }
            count++;
            return count - 1;
        }

        int moveAt(int game, int k) {
            return played[game * MOST_MOVES + k];
        }

        int moveCount() {
            int all = 0;
            for (int game = 0; game < count; game++) {
                all += lengths[game];
            }
            return all;
        }

        int stateAhead(int game, int k, int code) {
            int state = starts[game];
            for (int j = 0; j < k; j++) {
                state = board.done(state, board.live(state, code), moveAt(game, j));
            }
            return state;
        }

        /** Where the GAME FAILS by the CODE; NONE if it doesn't. */
        int failsAt(int game, int code) {
            int state = starts[game];
            for (int k = 0; k < lengths[game]; k++) {
                int live = board.live(state, code);
                if (!board.allows(state, live, moveAt(game, k))) {
                    return k;
                }
                state = board.done(state, live, moveAt(game, k));
            }
            return board.winner(state, code) == outs[game] ? NONE : lengths[game];
        }

        /** WIDE of the CODE. */
        int width(int code) {
            int all = 0;
            for (int game = 0; game < count; game++) {
                int state = starts[game];
                for (int k = 0; k < lengths[game]; k++) {
                    int live = board.live(state, code);
                    all += board.lawfulCount(state, live);
                    state = board.done(state, live, moveAt(game, k));
                }
            }
            return all;
        }

        /** PART of the two CODES; NONE if they don't. */
        int parting(int code, int other) {
            for (int game = 0; game < count; game++) {
                int state = starts[game];
                for (int k = 0; k < lengths[game]; k++) {
                    int live = board.live(state, code);
                    if (!board.letAlike(state, live, board.live(state, other))) {
                        return 100 * game + k;
                    }
                    state = board.done(state, live, moveAt(game, k));
                }
            }
            return NONE;
        }

        /** How many MOVES and GAMES are FAULTY by the CODE, as far as there are fewer than enough. */
        int faulty(int code, int enough) {
            int faults = 0;
            for (int game = 0; game < count; game++) {
                int state = starts[game];
                for (int k = 0; k < lengths[game] && faults < enough; k++) {
                    int live = board.live(state, code);
                    if (!board.allows(state, live, moveAt(game, k))) {
                        faults++;
                    }
                    state = board.done(state, live, moveAt(game, k));
                }
                if (board.winner(state, code) != outs[game]) {
                    faults++;
                }
                if (faults >= enough) {
                    return enough;
                }
            }
            return faults;
        }

        /**
         * With which ends a base fits the GAME: bits, by what stands above the base in the CODE.
         * Ends change nothing of a GAME that fits but how it goes out, so one walk tells all.
         */
        int endsFitting(int game, int base) {
            int state = starts[game];
            int fewest = POINTS;
            for (int k = 0; k < lengths[game]; k++) {
                int live = board.live(state, base);
                if (!board.allows(state, live, moveAt(game, k))) {
                    return 0;
                }
                fewest = Math.min(fewest, Integer.bitCount(Board.own(state)));
                state = board.done(state, live, moveAt(game, k));
            }
            int left = Integer.bitCount(Board.own(state));
            boolean isStuck = !board.letsAny(state, board.live(state, base));
            int fitting = 0;
            for (int ends = 0; ends < END_WAYS; ends++) {
                boolean isOver = left < ends >> 1 || (ends & 1) != 0 && isStuck;
                int winner = isOver ? 1 - Board.side(state) : NONE;
                if (ends >> 1 <= fewest && winner == outs[game]) {
                    fitting |= 1 << ends;
                }
            }
            return fitting;
        }
    }

    /** The CODES that FIT: know() finds them anew when TIES or GAMES have become others. */
    private static final class Fitting {
        private static final int HIGHEST_PRICE = 22;

        private final Games games = new Games();
        private final Board board = games.board;
        /** The CODES that FIT, by PRICE, of like ones by CODE. */
        private final int[] codes = new int[CODES];
        private int count = 0;
        /** How many CODES of no more than a PRICE FIT. */
        private final int[] upTo = new int[HIGHEST_PRICE + 1];
        /** By base, with which ends it FITS (bits). */
        private final int[] endsOf = new int[BASES];
        /** By base, whether TIGHT has come to its WIDE (1). */
        private final int[] measured = new int[BASES];
        /** How many RIVALS let each MOVE; and how many of them let by each set of PARTS. */
        private final int[] votes = new int[16 * (HAND + 1)];
        private final int[] alike = new int[TAKE];
        private boolean isKnown = false;
        private int knownTight = NONE;
        private int knownCheatPrice = NONE;
        private int knownCheatCode = NONE;

        void forget() {
            isKnown = false;
            knownTight = NONE;
            knownCheatPrice = NONE;
        }

        void know() {
            for (int base = 0; base < BASES && !isKnown; base++) {
                int ends = (1 << END_WAYS) - 1;
                for (int game = 0; game < games.count && ends != 0; game++) {
                    ends &= games.endsFitting(game, base);
                }
                // There is no CODE 0.
                endsOf[base] = base == 0 ? ends & ~1 : ends;
            }
            if (!isKnown) {
                sort();
            }
            isKnown = true;
        }

        private boolean fitsAll(int code) {
            return (endsOf[code % BASES] >> code / BASES & 1) != 0;
        }

        private void sort() {
            Arrays.fill(upTo, 0);
            for (int code = 1; code < CODES; code++) {
                if (fitsAll(code)) {
                    upTo[Rule.priceOf(code)]++;
                }
            }
            count = 0;
            for (int price = 0; price <= HIGHEST_PRICE; price++) {
                int ofPrice = upTo[price];
                upTo[price] = count;
                count += ofPrice;
            }
            for (int code = 1; code < CODES; code++) {
                if (fitsAll(code)) {
                    int price = Rule.priceOf(code);
                    codes[upTo[price]] = code;
                    upTo[price]++;
                }
            }
        }

        int rivalCount(int x) {
            if (count == 0) {
                return 0;
            }
            return upTo[Math.min(Rule.priceOf(codes[0]) + x, HIGHEST_PRICE)];
        }

        /** TIGHT; NONE if no CODE FITS. */
        int tightest() {
            int rivals = knownTight == NONE ? rivalCount(WIDEST_X) : 0;
            int least = Integer.MAX_VALUE;
            Arrays.fill(measured, 0);
            for (int i = 0; i < rivals; i++) {
                // By one base all that FIT are of one WIDE: their ends come behind all SEEN STATES.
                int base = codes[i] % BASES;
                int width = measured[base] != 0 ? least : games.width(codes[i]);
                measured[base] = 1;
                if (width < least) {
                    least = width;
                    knownTight = codes[i];
                }
            }
            return knownTight;
        }

        /** How many RIVALS let a MOVE. */
        int letting(int state, int x, int move) {
            vote(state, x);
            return votes[move];
        }

        /** ASK in a STATE; NONE if no MOVE is let by some alone. */
        int asked(int state, int x) {
            vote(state, x);
            int rivals = rivalCount(x);
            int least = rivals;
            int asked = NONE;
            for (int move = 0; move < votes.length; move++) {
                int greater = Math.max(votes[move], rivals - votes[move]);
                if (greater < least) {
                    least = greater;
                    asked = move;
                }
            }
            return asked;
        }

        /** LEFT in a STATE; 0 if there is no ASK. */
        int leftOver(int state, int x) {
            int move = asked(state, x);
            return move == NONE ? 0 : Math.max(votes[move], rivalCount(x) - votes[move]);
        }

        private void vote(int state, int x) {
            int rivals = rivalCount(x);
            Arrays.fill(alike, 0);
            for (int i = 0; i < rivals; i++) {
                alike[board.live(state, codes[i]) % TAKE]++;
            }
            Arrays.fill(votes, 0);
            for (int live = 1; live < TAKE; live++) {
                for (int from = 0; from <= HAND && alike[live] != 0; from++) {
                    addVotes(from, board.targets(state, live, from), alike[live]);
                }
            }
        }

        private void addVotes(int from, int targets, int voters) {
            for (int to = 0; to < POINTS && targets != 0; to++) {
                if ((targets >> to & 1) != 0) {
                    votes[16 * from + to] += voters;
                }
            }
        }

        /** The CODE of CHEAT by a PRICE. */
        int cheatCode(int price) {
            if (knownCheatPrice == price) {
                return knownCheatCode;
            }
            int least = Integer.MAX_VALUE;
            for (int code = 1; code < CODES && least > 0; code++) {
                if (Rule.priceOf(code) <= price) {
                    int faults = games.faulty(code, least);
                    if (faults < least) {
                        least = faults;
                        knownCheatCode = code;
                    }
                }
            }
            knownCheatPrice = price;
            return knownCheatCode;
        }
    }

    /** A RULE that was read, and how RULES are read. */
    private static final class Rule {
        private static final int LONGEST_WORD = 8;
        private static final int WORD_COUNT = 13;
        /** The PARTS as they are written, each filled up to the longest; the last three are end 1 to end 3. */
        private static final String WORDS =
            "step 0..step 1..step 2..jump 0..jump 1..jump 2..put.....take....must....end noneend 1...end 2...end 3...";
        private static final int ALL_WORDS = (1 << WORD_COUNT) - 1;
        private static final int END_NONE_WORD = 9;
        private static final int ENDS_AT = 10;

        final int number;
        final int code;
        final int kind;
        final int cost;
        private final int[] ran;

        Rule(int number, int code, int[] ran) {
            this.number = number;
            this.code = code;
            this.kind = kindOf(code);
            this.cost = priceOf(code);
            this.ran = ran;
        }

        static int priceOf(int code) {
            int price = 2 * Integer.bitCount(code & (STEPS | PUT)) + 3 * Integer.bitCount(code & JUMPS)
                + Integer.bitCount(code & (TAKE | MUST | END_NONE));
            return code >> ENDS_AT == 0 ? price : price + 2;
        }

        private static int partCount(int code) {
            int others = Integer.bitCount(code & (1 << ENDS_AT) - 1);
            return code >> ENDS_AT == 0 ? others : others + 1;
        }

        private static int kindOf(int code) {
            if (partCount(code) != 1) {
                return KIND_JOINED;
            }
            if ((code & STEPS) != 0) {
                return KIND_STEP;
            }
            if ((code & JUMPS) != 0) {
                return KIND_JUMP;
            }
            switch (code) {
                case PUT:
                    return KIND_PUT;
                case TAKE:
                    return KIND_TAKE;
                case MUST:
                    return KIND_MUST;
                default:
                    return KIND_END;
            }
        }

        /** Whether it is of a KIND, or of one under it. */
        boolean isOf(int wanted) {
            return wanted == KIND_RULE || wanted == kind || wanted == KIND_STEP && kind == KIND_JUMP;
        }

        /** What it says, taken for one of a KIND that it is of. */
        int tells(int wanted) {
            switch (wanted) {
                case KIND_RULE:
                    return code;
                case KIND_STEP:
                case KIND_JUMP:
                    return Integer.bitCount(code - 1) % TIE_KINDS;
                case KIND_END:
                    return code >> ENDS_AT;
                case KIND_JOINED:
                    return partCount(code);
                default:
                    return cost;
            }
        }

        /** The CODE that the letters tell; or, below 0, -1 less the FAULT. */
        static int read(long[] letters, int size) {
            int code = 0;
            int words = ALL_WORDS;
            int at = 0;
            boolean isWhole = false;
            for (int i = 0; i < size; i++) {
                int letter = (int) letters[i];
                if (isWhole) {
                    if (letter != ';') {
                        return -1 - i;
                    }
                    words = ALL_WORDS;
                    at = 0;
                    isWhole = false;
                } else {
                    words = goingOn(words, at, letter);
                    at++;
                    int part = wholeWord(words, at);
                    if (words == 0 || isThere(code, part)) {
                        return -1 - i;
                    }
                    code |= part;
                    isWhole = part != 0;
                }
            }
            return isWhole ? code : -1 - size;
        }

        /** Those of some words that have the letter at a place. */
        private static int goingOn(int words, int at, int letter) {
            int left = 0;
            for (int word = 0; word < WORD_COUNT && at < LONGEST_WORD; word++) {
                if ((words >> word & 1) != 0 && WORDS.charAt(LONGEST_WORD * word + at) == letter) {
                    left |= 1 << word;
                }
            }
            return left;
        }

        /** The bits of the PART among some words that is as long as told; 0 if none is. */
        private static int wholeWord(int words, int length) {
            for (int word = 0; word < WORD_COUNT; word++) {
                boolean isWhole = length >= LONGEST_WORD || WORDS.charAt(LONGEST_WORD * word + length) == '.';
                if ((words >> word & 1) != 0 && isWhole) {
                    return word <= END_NONE_WORD ? 1 << word : word - END_NONE_WORD << ENDS_AT;
                }
            }
            return 0;
        }

        /** Whether the PART was read before; two ends that count pieces are one PART. */
        private static boolean isThere(int code, int part) {
            return (code & part) != 0 || code >> ENDS_AT != 0 && part >> ENDS_AT != 0;
        }

        private void begins(int body) {
            int i = 1 + ran[0];
            if (i < ran.length) {
                ran[i] = body;
            }
            ran[0]++;
        }

        int goes(int x) {
            switch (kind) {
                case KIND_STEP:
                    begins(20);
                    return anyGoes(x) * 3;
                case KIND_JUMP:
                    // A JUMP has its super from STEP, which it is under.
                    begins(30);
                    begins(20);
                    return anyGoes(x + 1) * 3;
                case KIND_JOINED:
                    begins(80);
                    return anyGoes(x) - 7;
                default:
                    return anyGoes(x);
            }
        }

        int lets(int x) {
            switch (kind) {
                case KIND_JUMP:
                    begins(31);
                    return anyLets(x) - cost;
                case KIND_PUT:
                    begins(40);
                    return -anyLets(x);
                case KIND_MUST:
                    begins(60);
                    return anyLets(x) ^ 9;
                default:
                    return anyLets(x);
            }
        }

        int ends(int x) {
            switch (kind) {
                case KIND_TAKE:
                    begins(50);
                    return anyEnds(x) + number;
                case KIND_END:
                    begins(70);
                    return anyEnds(x) * 2;
                case KIND_JOINED:
                    begins(81);
                    return anyEnds(x + cost);
                default:
                    return anyEnds(x);
            }
        }

        private int anyGoes(int x) {
            begins(10);
            return x + number;
        }

        private int anyLets(int x) {
            begins(11);
            return goes(x) * 2;
        }

        private int anyEnds(int x) {
            begins(12);
            return lets(x) ^ goes(x - cost);
        }
    }
}
