import java.util.ArrayList;
import java.util.List;

/**
 * REFUSALS: a refused call answers the first number that fits, is counted once under it, and changes
 * nothing else. Each is made on an object of its own, and all that can be seen of it is held against
 * one on which the call wasn't made.
 */
public final class RefusedTest {
    private static final Due DUE = new Due("RefusedTest");
    private static final int LEAST = Integer.MIN_VALUE;
    private static final int MOST = Integer.MAX_VALUE;

    // What the SHELVES of every world hold.
    private static final int BYTES = 0;
    private static final int INTS = 1;
    private static final int SHORT_START = 2;
    private static final int RULE = 3;
    private static final int EMPTY = 4;

    private enum World { FITTING, FULL, ANEW }

    private interface Call {
        int on(WhatGame game);
    }

    public static void main(String[] args) {
        shelves();
        copies();
        saying();
        ties();
        rules();
        faults();
        numbers();
        states();
        plays();
        games();
        gameParts();
        gone();
        fitting();
        noneFits();
        looking();
        restoring();
        notRefused();
        DUE.end();
    }

    /** FITTING: a rule, a game, some CODES FIT. FULL: 8 RULES, 6 GAMES, none FITS. ANEW: nothing, not imaged. */
    private static WhatGame made(World world) {
        WhatGame game = new WhatGame();
        if (world == World.ANEW) return game;
        Due.line(game, 0, 0, 1, 2, 3);
        Due.line(game, 2, 3, 0);
        Due.rule(game, "jump 1");
        Due.game(game, "ab", -1, 2);
        Due.state(game, 1, "ab.b");
        game.image();
        if (world == World.FULL) {
            for (int i = 1; i < 8; i++) Due.rule(game, "put");
            for (int i = 1; i < 6; i++) Due.game(game, ".a", 1, 251);
        }
        game.tie(4, 5, 1, true);
        Due.state(game, 0, ".ab.a");
        Due.row(game, BYTES, 0, 'p', 'u', 't', 0, 0, 0, 0, 0, 0, 0, 0, 1);
        Due.row(game, INTS, 2, 1, 16, 0);
        Due.row(game, SHORT_START, 1, 1, 2, 0, 1, 2, 0, 0, 0, 1, 2, 1);
        game.show(RULE, 0);
        game.show(EMPTY, -1);
        game.act(0, 2, 5);
        return game;
    }

    /** All that can be seen but the counts of REFUSALS and the FAULT. */
    private static List<Long> seen(WhatGame game) {
        List<Long> seen = new ArrayList<>();
        for (int s = 0; s < 8; s++) {
            seen.add((long) game.holds(s));
            for (int i = 0; i < 13; i++) seen.add(game.element(s, i));
        }
        for (int i = 0; i < 12; i++) seen.add((long) game.trace(i));
        seen.add((long) game.fits());
        seenBoard(game, seen);
        for (int i = 0; i < game.status(0); i++) seen.add((long) game.ruleOf(i, 0));
        for (int i = 0; i < game.status(1); i++) {
            for (int what : new int[] {0, 1, 200, 201}) seen.add((long) game.gameOf(i, what));
            if (game.gameOf(i, 0) > 0) seen.add((long) game.gameOf(i, 100));
        }
        if (game.restore() >= 0) seenBoard(game, seen);
        return seen;
    }

    private static void seenBoard(WhatGame game, List<Long> seen) {
        for (int what = 0; what < 7; what++) seen.add((long) game.status(what));
        for (char point : Due.points(game).toCharArray()) seen.add((long) point);
        for (int p = 0; p < 12; p++) {
            for (int kind = 0; kind < 3; kind++) seen.add((long) game.tied(p, kind));
        }
    }

    private static void refused(String call, World world, int number, Call made) {
        refused(call, world, number, number, made);
    }

    /** A call is refused: told so, counted as the number. */
    private static void refused(String call, World world, int told, int number, Call made) {
        WhatGame game = made(world);
        int fault = game.fault();
        int[] counts = new int[8];
        for (int i = 1; i < 8; i++) counts[i] = game.status(10 + i);
        counts[-number]++;
        DUE.is(call, made.on(game), told);
        for (int i = 1; i < 8; i++) DUE.is(call + ": how many -" + i, game.status(10 + i), counts[i]);
        DUE.is(call + ": the fault", game.fault(), fault);
        DUE.is(call + ": all else", seen(game).equals(seen(made(world))) ? 1 : 0, 1);
    }

    private static void refused(String call, int number, Call made) {
        refused(call, World.FITTING, number, made);
    }

    private static void shelves() {
        for (int s : new int[] {-1, 8, LEAST, MOST}) {
            refused("row -1", -1, game -> game.row(s, 0, 1));
            refused("set -1", -1, game -> game.set(s, 0, 1));
            refused("show -1", -1, game -> game.show(s, 0));
            refused("show NONE -1", -1, game -> game.show(s, -1));
        }
        refused("row -1 ahead of -4", -1, game -> game.row(8, 0, -1));
        refused("row -1 ahead of -6", -1, game -> game.row(8, 4, 1));
        refused("row -1 ahead of -7", -1, game -> game.row(-1, 0, 61));
        refused("row -4", -4, game -> game.row(BYTES, 0, -1));
        refused("row -4, least", -4, game -> game.row(BYTES, 0, LEAST));
        refused("row -4 ahead of -6", -4, game -> game.row(BYTES, 4, -1));
        refused("row -6, above", -6, game -> game.row(BYTES, 4, 1));
        refused("row -6, below", -6, game -> game.row(RULE, -1, 1));
        refused("row -6 ahead of -7", -6, game -> game.row(BYTES, -1, 61));
        refused("row -7", -7, game -> game.row(EMPTY, 3, 61));
        refused("row -7, most", -7, game -> game.row(BYTES, 0, MOST));
        refused("set -1 ahead of -5", -1, game -> game.set(8, 60, 1));
        refused("set -2", -2, game -> game.set(RULE, 0, 1));
        refused("set -2 ahead of -5", -2, game -> game.set(RULE, 60, 1));
        refused("set -3", -3, game -> game.set(EMPTY, 0, 1));
        refused("set -3 ahead of -5", -3, game -> game.set(EMPTY, -1, 1));
        refused("set -5, one too far", -5, game -> game.set(INTS, 3, 1));
        refused("set -5, below", -5, game -> game.set(INTS, -1, 1));
        refused("set -5, most", -5, game -> game.set(INTS, MOST, 1));
        refused("set -5, least", -5, game -> game.set(INTS, LEAST, 1));
        refused("show -1, no such rule", -1, game -> game.show(BYTES, 1));
        refused("show -1, no such rule of 8", World.FULL, -1, game -> game.show(BYTES, 8));
        refused("show -1, below NONE", -1, game -> game.show(BYTES, -2));
        refused("show -1, least", -1, game -> game.show(BYTES, LEAST));
        refused("show -1, the number of a sort", -1, game -> game.show(BYTES, 100));
        refused("show -1, no rules yet", World.ANEW, -1, game -> game.show(0, 0));
    }

    private static void copies() {
        for (int s : new int[] {-1, 8, LEAST, MOST}) {
            refused("copy -1, from", -1, game -> game.copy(s, BYTES, 0, 0, 1));
            refused("copy -1, to", -1, game -> game.copy(BYTES, s, 0, 0, 1));
            refused("copy -1 ahead of -2", -1, game -> game.copy(s, RULE, 0, 0, 1));
            refused("copy -1 ahead of -2", -1, game -> game.copy(RULE, s, 0, 0, 1));
            refused("copy -1 ahead of -3", -1, game -> game.copy(s, EMPTY, 0, 0, 1));
            refused("copy -1 ahead of -3", -1, game -> game.copy(EMPTY, s, 0, 0, 1));
            refused("copy -1 ahead of -4", -1, game -> game.copy(s, BYTES, 0, 0, -1));
            refused("copy -1 ahead of -5", -1, game -> game.copy(BYTES, s, -1, 0, 1));
        }
        refused("copy -2, from a rule", -2, game -> game.copy(RULE, BYTES, 0, 0, 0));
        refused("copy -2, to a rule", -2, game -> game.copy(BYTES, RULE, 0, 0, 0));
        refused("copy -2, a rule to itself", -2, game -> game.copy(RULE, RULE, 0, 0, 0));
        refused("copy -2, two sorts", -2, game -> game.copy(BYTES, INTS, 0, 0, 0));
        refused("copy -2, two sorts, back", -2, game -> game.copy(INTS, SHORT_START, 0, 0, 1));
        refused("copy -2 ahead of -3", -2, game -> game.copy(RULE, EMPTY, 0, 0, 0));
        refused("copy -2 ahead of -3", -2, game -> game.copy(EMPTY, RULE, 0, 0, 0));
        refused("copy -2 ahead of -4", -2, game -> game.copy(BYTES, INTS, 0, 0, -1));
        refused("copy -2 ahead of -5", -2, game -> game.copy(BYTES, INTS, -1, 99, 1));
        refused("copy -3, from", -3, game -> game.copy(EMPTY, BYTES, 0, 0, 0));
        refused("copy -3, to", -3, game -> game.copy(BYTES, EMPTY, 0, 0, 0));
        refused("copy -3, both", -3, game -> game.copy(EMPTY, EMPTY, 0, 0, 0));
        refused("copy -3 ahead of -4", -3, game -> game.copy(BYTES, EMPTY, 0, 0, -1));
        refused("copy -3 ahead of -5", -3, game -> game.copy(EMPTY, BYTES, -1, 0, 1));
        refused("copy -4", -4, game -> game.copy(INTS, INTS, 0, 1, -1));
        refused("copy -4, least", -4, game -> game.copy(INTS, INTS, 0, 1, LEAST));
        refused("copy -4 ahead of -5", -4, game -> game.copy(INTS, INTS, -1, 4, -1));
        refused("copy -5, i below 0", -5, game -> game.copy(INTS, INTS, -1, 0, 1));
        refused("copy -5, j below 0", -5, game -> game.copy(INTS, INTS, 0, -1, 1));
        refused("copy -5, i below 0 and none to copy", -5, game -> game.copy(INTS, INTS, -1, 0, 0));
        refused("copy -5, j below 0 and none to copy", -5, game -> game.copy(INTS, INTS, 0, -1, 0));
        refused("copy -5, the end from", -5, game -> game.copy(INTS, INTS, 1, 0, 3));
        refused("copy -5, the end to", -5, game -> game.copy(INTS, INTS, 0, 1, 3));
        refused("copy -5, n one too many", -5, game -> game.copy(INTS, INTS, 0, 0, 4));
        refused("copy -5, ends that wrap", -5, game -> game.copy(INTS, INTS, MOST, 0, 1));
        refused("copy -5, ends that wrap", -5, game -> game.copy(INTS, INTS, 0, MOST, MOST));
        refused("copy -5, ends that wrap", -5, game -> game.copy(INTS, INTS, 2, 2, MOST));
        refused("copy -5, i least", -5, game -> game.copy(INTS, INTS, LEAST, 0, MOST));
    }

    private static void saying() {
        for (int none : new int[] {-1, 8, LEAST, MOST}) {
            refused("says -1, shelf", -1, game -> game.says(none, 0));
            refused("says -1, kind", -1, game -> game.says(RULE, none));
            refused("says -1 ahead of -2", -1, game -> game.says(BYTES, none));
            refused("says -1 ahead of -3", -1, game -> game.says(EMPTY, none));
        }
        for (int kind = 0; kind < 8; kind++) {
            int asked = kind;
            refused("says -2, a row", -2, game -> game.says(BYTES, asked));
            refused("says -2, a row of ints", -2, game -> game.says(INTS, asked));
            refused("says -3", -3, game -> game.says(EMPTY, asked));
            if (kind > 2) refused("says -2, a jump as " + kind, -2, game -> game.says(RULE, asked));
        }
    }

    private static void ties() {
        for (int none : new int[] {-1, 12, LEAST, MOST}) {
            refused("tie -1, p", -1, game -> game.tie(none, 0, 0, true));
            refused("tie -1, q", -1, game -> game.tie(0, none, 0, false));
            refused("tie -1 ahead of -6", -1, game -> game.tie(none, none, 0, true));
            refused("tied -1, p", -1, game -> game.tied(none, 0));
        }
        for (int none : new int[] {-1, 3, LEAST, MOST}) {
            refused("tie -1, kind", -1, game -> game.tie(4, 6, none, true));
            refused("tie -1, kind, ahead of -6", -1, game -> game.tie(4, 4, none, true));
            refused("tied -1, kind", -1, game -> game.tied(0, none));
        }
        for (int p = 0; p < 12; p++) {
            int one = p;
            refused("tie -6, " + p, -6, game -> game.tie(one, one, one % 3, one % 2 == 0));
        }
    }

    private static void rules() {
        for (int s : new int[] {-1, 8, LEAST, MOST}) refused("rule -1", -1, game -> game.rule(s));
        refused("rule -2", -2, game -> game.rule(RULE));
        refused("rule -3", -3, game -> game.rule(EMPTY));
        refused("rule -3, nothing at all", World.ANEW, -3, game -> game.rule(0));
        refused("rule -1, full", World.FULL, -1, game -> game.rule(8));
        refused("rule -2, full", World.FULL, -2, game -> game.rule(RULE));
        refused("rule -3, full", World.FULL, -3, game -> game.rule(EMPTY));
        for (int none : new int[] {-1, 1, 8, LEAST, MOST}) {
            refused("ruleOf -5, rule", -5, game -> game.ruleOf(none, 0));
        }
        refused("ruleOf -5, the ninth", World.FULL, -5, game -> game.ruleOf(8, 0));
        refused("ruleOf -5, none yet", World.ANEW, -5, game -> game.ruleOf(0, 0));
        for (int none : new int[] {-1, 3, LEAST, MOST}) {
            refused("ruleOf -5, what", -5, game -> game.ruleOf(0, none));
        }
    }

    /** rule() that is refused behind a FAULT, or a RULE too many, tells the FAULT anew, and changes nothing else. */
    private static void faults() {
        WhatGame game = made(World.FITTING);
        DUE.is("rule -6", game.rule(INTS), -6);
        DUE.is("its fault", game.fault(), 0);
        for (int i = 1; i < 8; i++) DUE.is("rule -6: how many -" + i, game.status(10 + i), i == 6 ? 1 : 0);
        DUE.is("rule -6: all else", seen(game).equals(seen(made(World.FITTING))) ? 1 : 0, 1);
        game = made(World.FULL);
        DUE.is("rule -6 ahead of -7", game.rule(BYTES), -6);
        DUE.is("its fault", game.fault(), 3);
        DUE.is("rule -6: all else", seen(game).equals(seen(made(World.FULL))) ? 1 : 0, 1);
        game = made(World.FULL);
        DUE.is("rule -6 ahead of -7", game.rule(BYTES), -6);
        DUE.is("rule -1", game.rule(-1), -1);
        DUE.is("rule -2", game.rule(RULE), -2);
        DUE.is("rule -3", game.rule(EMPTY), -3);
        DUE.is("none came to a row: the fault stays", game.fault(), 3);
        Due.row(game, 7, 0, 'p', 'u', 't');
        DUE.is("rule -7", game.rule(7), -7);
        DUE.is("it was a rule: no fault", game.fault(), -1);
        DUE.refusals(game, 1, 1, 1, 0, 0, 1, 1);
        DUE.is("no ninth", game.status(0), 8);
        DUE.is("no ninth", game.ruleOf(8, 0), -5);
    }

    private static void numbers() {
        for (int code : new int[] {0, -1, 4096, 4097, 8191, LEAST, MOST}) {
            refused("price -1", -1, game -> game.price(code));
            refused("moves -1", -1, game -> game.moves(code));
            refused("move -5, code", -5, game -> game.move(code, 0));
            refused("over -11", World.FITTING, -11, -1, game -> game.over(code));
            refused("play -1", -1, game -> game.play(code, 16));
            refused("play -1 ahead of -6", -1, game -> game.play(code, 0));
            refused("load -1, code", -1, game -> game.load(0, 0, code));
            refused("load -1, code, ahead of -6", -1, game -> game.load(0, 2, code));
            refused("judge -11, code", World.FITTING, -11, -1, game -> game.judge(0, code));
            refused("wide -1", -1, game -> game.wide(code));
            refused("part -11, code", World.FITTING, -11, -1, game -> game.part(code, 1));
            refused("part -11, other", World.FITTING, -11, -1, game -> game.part(1, code));
            refused("part -11, both", World.FITTING, -11, -1, game -> game.part(code, code));
            refused("same -11, code", World.FITTING, -11, -1, game -> game.same(code, 1));
            refused("same -11, other", World.FITTING, -11, -1, game -> game.same(1, code));
            refused("same -11, both", World.FITTING, -11, -1, game -> game.same(code, code));
            refused("value -11", World.FITTING, -11, -1, game -> game.value(code, 1));
            refused("value -11 ahead of -16", World.FITTING, -11, -1, game -> game.value(code, 4));
            refused("best -11", World.FITTING, -11, -1, game -> game.best(code, 1));
            refused("best -11 ahead of -16", World.FITTING, -11, -1, game -> game.best(code, 0));
        }
    }

    private static void states() {
        for (int none : new int[] {-1, 12, LEAST, MOST}) {
            refused("point -1", -1, game -> game.point(none, 1));
            refused("point -1 ahead of -6", -1, game -> game.point(none, 3));
        }
        for (int v : new int[] {-1, 3, LEAST, MOST}) {
            refused("point -6", -6, game -> game.point(0, v));
            refused("point -6, the last", -6, game -> game.point(11, v));
        }
        for (int v : new int[] {-1, 2, LEAST, MOST}) refused("turn -6", -6, game -> game.turn(v));
        for (int i : new int[] {-1, 3, LEAST, MOST}) refused("move -5, i", -5, game -> game.move(1, i));
        refused("move -5, none is lawful", -5, game -> game.move(128, 0));
        refused("move -5, over", -5, game -> game.move(3073, 0));
    }

    private static void plays() {
        int[] none = {0, 17, 187, 12, 192, 239, 252, 255, 256, 272, -1, LEAST, MOST, 16 - 65536};
        for (int move : none) refused("play -6, no such points " + move, -6, game -> game.play(1 + 64, move));
        refused("play -6, not tied", -6, game -> game.play(1, 16 + 11));
        refused("play -6, tied by another kind", -6, game -> game.play(2, 16));
        refused("play -6, from an empty point", -6, game -> game.play(1, 1));
        refused("play -6, from the other side's", -6, game -> game.play(1, 35));
        refused("play -6, to a piece", -6, game -> game.play(1, 18));
        refused("play -6, put to a piece", -6, game -> game.play(64, 241));
        refused("play -6, put without put", -6, game -> game.play(1, 240));
        refused("play -6, a step where a jump must be", -6, game -> game.play(1 + 8 + 256, 16));
        refused("play -6, a put where a jump must be", -6, game -> game.play(64 + 8 + 256, 240));
        refused("play -6, over", -6, game -> game.play(1 + 3072, 16));
        refused("play -6, a jump, over", -6, game -> game.play(8 + 128 + 3072, 19));
    }

    private static void games() {
        for (int s : new int[] {-1, 8, LEAST, MOST}) {
            refused("game -1, start", -1, game -> game.game(s, INTS, 1, -1));
            refused("game -1, moves", -1, game -> game.game(BYTES, s, 1, -1));
            refused("game -1 ahead of -2", -1, game -> game.game(RULE, s, 1, -1));
            refused("game -1 ahead of -3", -1, game -> game.game(s, EMPTY, 1, -1));
            refused("game -1 ahead of -4", -1, game -> game.game(s, INTS, -1, -1));
            refused("game -1 ahead of -5", -1, game -> game.game(SHORT_START, s, 1, -1));
            refused("game -1 ahead of -6", -1, game -> game.game(s, INTS, 1, 2));
        }
        refused("game -1 ahead of -7", World.FULL, -1, game -> game.game(5, 8, 1, -1));
        refused("game -2, start", -2, game -> game.game(RULE, INTS, 1, -1));
        refused("game -2, moves", -2, game -> game.game(5, RULE, 0, -1));
        refused("game -2 ahead of -3", -2, game -> game.game(RULE, EMPTY, 1, -1));
        refused("game -2 ahead of -3", -2, game -> game.game(EMPTY, RULE, 1, -1));
        refused("game -2 ahead of -4", -2, game -> game.game(5, RULE, -1, -1));
        refused("game -2 ahead of -5", -2, game -> game.game(SHORT_START, RULE, 1, -1));
        refused("game -2 ahead of -6", -2, game -> game.game(RULE, INTS, 1, 2));
        refused("game -2 ahead of -7", World.FULL, -2, game -> game.game(5, RULE, 0, -1));
        refused("game -3, start", -3, game -> game.game(EMPTY, INTS, 1, -1));
        refused("game -3, moves", -3, game -> game.game(5, EMPTY, 0, -1));
        refused("game -3 ahead of -4", -3, game -> game.game(5, EMPTY, -1, -1));
        refused("game -3 ahead of -5", -3, game -> game.game(EMPTY, INTS, 4, -1));
        refused("game -3 ahead of -6", -3, game -> game.game(5, EMPTY, 0, -2));
        refused("game -3 ahead of -7", World.FULL, -3, game -> game.game(5, EMPTY, 0, -1));
        refused("game -4", -4, game -> game.game(5, INTS, -1, -1));
        refused("game -4, least", -4, game -> game.game(5, INTS, LEAST, -1));
        refused("game -4 ahead of -5", -4, game -> game.game(SHORT_START, INTS, -1, -1));
        refused("game -4 ahead of -6", -4, game -> game.game(5, INTS, -1, 2));
        refused("game -4 ahead of -7", World.FULL, -4, game -> game.game(5, INTS, -1, -1));
        refused("game -5, a start of 11", -5, game -> game.game(SHORT_START, INTS, 2, -1));
        refused("game -5, one move too few", -5, game -> game.game(5, INTS, 4, -1));
        refused("game -5, most", -5, game -> game.game(5, INTS, MOST, -1));
        refused("game -5 ahead of -6, n", -5, game -> game.game(5, INTS, 21, -1));
        refused("game -5 ahead of -6, out", -5, game -> game.game(SHORT_START, INTS, 2, 2));
        refused("game -5 ahead of -7", World.FULL, -5, game -> game.game(5, INTS, 4, -1));
    }

    private static void gameParts() {
        refused("game -6, an out above", -6, game -> game.game(5, INTS, 2, 2));
        refused("game -6, an out below", -6, game -> game.game(5, INTS, 2, -2));
        refused("game -6, an out of all", -6, game -> game.game(5, INTS, 2, LEAST));
        refused("game -6, a start of letters", -6, game -> game.game(BYTES, INTS, 2, -1));
        refused("game -6, move 0", -6, game -> game.game(5, INTS, 3, -1));
        refused("game -6 ahead of -7, out", World.FULL, -6, game -> game.game(5, INTS, 2, 2));
        refused("game -6 ahead of -7, move", World.FULL, -6, game -> game.game(5, INTS, 3, -1));
        refused("game -7", World.FULL, -7, game -> game.game(5, INTS, 2, -1));
        refused("game -7, of no moves", World.FULL, -7, game -> game.game(5, INTS, 0, -1));
        for (int none : new int[] {-1, 1, 6, LEAST, MOST}) {
            refused("gameOf -5, game", -5, game -> game.gameOf(none, 0));
            refused("load -1, game", -1, game -> game.load(none, 0, 1));
            refused("load -1, game, ahead of -6", -1, game -> game.load(none, -1, 1));
            refused("judge -11, game", World.FITTING, -11, -1, game -> game.judge(none, 1));
        }
        for (int none : new int[] {-1, 2, 99, 101, 120, 199, 212, LEAST, MOST}) {
            refused("gameOf -5, what", -5, game -> game.gameOf(0, none));
        }
        refused("gameOf -5, the seventh", World.FULL, -5, game -> game.gameOf(6, 0));
        refused("gameOf -5, none yet", World.ANEW, -5, game -> game.gameOf(0, 200));
    }

    private static void gone() {
        for (int k : new int[] {-1, 2, LEAST, MOST}) refused("load -6", -6, game -> game.load(0, k, 1));
        refused("load -1, the seventh", World.FULL, -1, game -> game.load(6, 0, 1));
        refused("load -1, none yet", World.ANEW, -1, game -> game.load(0, 0, 1));
        refused("judge -11, the seventh", World.FULL, -11, -1, game -> game.judge(6, 1));
        refused("judge -11, none yet", World.ANEW, -11, -1, game -> game.judge(0, 1));
    }

    private static void fitting() {
        for (int x : new int[] {-1, 10, LEAST, MOST}) {
            refused("rivals -6", -6, game -> game.rivals(x));
            refused("rival -5, x", -5, game -> game.rival(x, 0));
            refused("sure -6, x", -6, game -> game.sure(1, x));
            refused("ask -16", World.FITTING, -16, -6, game -> game.ask(x));
            refused("left -6", -6, game -> game.left(x));
        }
        int rivals = made(World.FITTING).rivals(9);
        for (int i : new int[] {-1, rivals, 4095, LEAST, MOST}) refused("rival -5, i", -5, game -> game.rival(9, i));
        int[] none = {0, 17, 187, 12, 192, 239, 252, 255, 256, 272, -1, LEAST, MOST, 16 - 65536};
        for (int move : none) refused("sure -6, no such points " + move, -6, game -> game.sure(move, 0));
        for (int price : new int[] {-1, 0, 26, LEAST, MOST}) {
            refused("cheat -6, price", -6, game -> game.cheat(price, 0));
            refused("cheat -6, price", -6, game -> game.cheat(price, 1));
        }
        for (int what : new int[] {-1, 2, LEAST, MOST}) refused("cheat -6, what", -6, game -> game.cheat(9, what));
    }

    private static void noneFits() {
        refused("find -5", World.FULL, -5, WhatGame::find);
        refused("tight -5", World.FULL, -5, WhatGame::tight);
        for (int x = 0; x < 10; x++) {
            int asked = x;
            refused("rival -5, none fits", World.FULL, -5, game -> game.rival(asked, 0));
            refused("sure -5, none fits", World.FULL, -5, game -> game.sure(1, asked));
        }
        refused("sure -5 ahead of -6, x", World.FULL, -5, game -> game.sure(1, 10));
        refused("sure -5 ahead of -6, move", World.FULL, -5, game -> game.sure(0, 0));
        refused("rivals -6, none fits", World.FULL, -6, game -> game.rivals(10));
        refused("ask -16, none fits", World.FULL, -16, -6, game -> game.ask(-1));
        refused("left -6, none fits", World.FULL, -6, game -> game.left(10));
    }

    private static void looking() {
        for (int n : new int[] {-1, 4, LEAST, MOST}) {
            refused("value -16", World.FITTING, -16, -6, game -> game.value(1, n));
            refused("best -16", World.FITTING, -16, -6, game -> game.best(1, n));
        }
        refused("best -16, 0", World.FITTING, -16, -6, game -> game.best(1, 0));
    }

    private static void restoring() {
        refused("restore -6", World.ANEW, -6, WhatGame::restore);
        WhatGame game = made(World.FITTING);
        DUE.is("with an image", game.restore(), 1);
    }

    /** Calls that tell NONE or 0 where there is nothing, and refuse nothing. */
    private static void notRefused() {
        WhatGame game = made(World.FITTING);
        int[] far = {LEAST, -2, -1, 13, 60, MOST};
        for (int none : far) {
            DUE.is("holds", game.holds(none), -1);
            DUE.is("element", game.element(BYTES, none), 0);
            DUE.is("element of no shelf", game.element(none, 0), 0);
            DUE.is("trace", game.trace(none), -1);
        }
        for (int none : new int[] {LEAST, -1, 7, 8, 9, 10, 18, 19, MOST}) DUE.is("status", game.status(none), -1);
        DUE.refusals(game, 0, 0, 0, 0, 0, 0, 0);
        for (int none : far) {
            DUE.is("act of no rule", game.act(none, 0, 1), 0);
            DUE.is("no such act", game.act(0, none, 1), 0);
        }
        DUE.is("element of a rule", game.element(RULE, 0), 0);
        DUE.is("element of nothing", game.element(EMPTY, 0), 0);
        DUE.is("show nothing", game.show(EMPTY, -1), 0);
        DUE.is("a tie as it was", game.tie(0, 1, 0, true), 0);
        DUE.refusals(game, 0, 0, 0, 0, 0, 0, 0);
    }
}
