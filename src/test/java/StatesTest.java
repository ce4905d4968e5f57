/** Promises 15 to 20, 37 and 38: point, turn, moves, move, over, play, value, best. */
public final class StatesTest {
    private static final Due DUE = new Due("StatesTest");
    private static final int STEP = 1;
    private static final int JUMP = 8;
    private static final int PUT = 64;
    private static final int TAKE = 128;
    private static final int MUST = 256;
    private static final int END_NONE = 512;
    private static final int END_1 = 1024;
    private static final int END_2 = 2048;
    private static final int END_3 = 3072;

    public static void main(String[] args) {
        points();
        turns();
        steps();
        jumps();
        puts();
        musts();
        ends();
        stuck();
        plays();
        takes();
        values();
        bests();
        DUE.end();
    }

    private static void points() {
        WhatGame game = new WhatGame();
        DUE.is("point", game.point(11, 2), 0);
        DUE.is("point", game.point(11, 1), 2);
        DUE.is("point", game.point(0, 1), 0);
        DUE.is("pieces", game.status(4), 2);
        DUE.is("point", game.point(11, 0), 1);
        DUE.is("pieces", game.status(4), 1);
        DUE.is("no point", game.point(12, 3), -1);
        DUE.is("no point", game.point(-1, 0), -1);
        DUE.is("wrong", game.point(0, 3), -6);
        DUE.is("wrong", game.point(0, -1), -6);
        DUE.is("as it was", game.point(0, 1), 1);
        DUE.refusals(game, 2, 0, 0, 0, 0, 2, 0);
    }

    private static void turns() {
        WhatGame game = new WhatGame();
        DUE.is("turn", game.turn(1), 0);
        DUE.is("turn", game.turn(1), 1);
        DUE.is("turn", game.status(5), 1);
        DUE.is("wrong", game.turn(2), -6);
        DUE.is("wrong", game.turn(-1), -6);
        DUE.is("turn", game.turn(0), 1);
        DUE.refusals(game, 0, 0, 0, 0, 0, 2, 0);
    }

    private static void let(String call, WhatGame game, int code, int... moves) {
        DUE.is(call + " moves", game.moves(code), moves.length);
        for (int i = 0; i < moves.length; i++) DUE.is(call + " move " + i, game.move(code, i), moves[i]);
        DUE.is(call + " no more", game.move(code, moves.length), -5);
    }

    private static void steps() {
        WhatGame game = new WhatGame();
        Due.line(game, 0, 0, 1, 2, 3);
        Due.line(game, 2, 2, 0, 11);
        Due.state(game, 0, "a.b");
        let("step 0", game, STEP, 1);
        let("step 2", game, 4, 11);
        let("both", game, 5, 1, 11);
        let("step 1", game, 2);
        game.turn(1);
        let("the other side", game, 5, 33, 35);
        DUE.is("no code", game.moves(0), -1);
        DUE.is("no code", game.moves(4096), -1);
        DUE.is("no code", game.move(0, 0), -5);
        DUE.is("no code", game.move(4096, 0), -5);
        DUE.is("none such", game.move(1, -1), -5);
        DUE.is("none such", game.move(1, Integer.MAX_VALUE), -5);
        DUE.refusals(game, 2, 0, 0, 0, 9, 0, 0);
    }

    private static void jumps() {
        WhatGame game = new WhatGame();
        Due.line(game, 0, 0, 1, 2, 3);
        Due.line(game, 1, 1, 5);
        Due.state(game, 0, "ab");
        let("over the other side's", game, JUMP, 2);
        let("by two kinds no jump", game, 16 + 32);
        let("not from kind to kind", game, JUMP + 16, 2);
        Due.state(game, 0, "aa");
        let("not over its own", game, JUMP);
        Due.state(game, 0, "a");
        let("not over nothing", game, JUMP);
        Due.state(game, 0, "aba");
        let("not to a piece", game, JUMP);
        Due.state(game, 1, "ab");
        let("the other side has no way", game, JUMP);
        Due.state(game, 1, "ba");
        let("the other side", game, JUMP, 2);
        // Over two POINTS to one: one MOVE.
        Due.line(game, 0, 0, 4, 2);
        Due.state(game, 0, "ab..b");
        let("once", game, JUMP, 2);
        Due.state(game, 0, ".b.a");
        let("none over what is not beside", game, JUMP);
    }

    private static void puts() {
        WhatGame game = new WhatGame();
        Due.line(game, 0, 0, 1);
        Due.state(game, 0, "a.bb.abab.");
        let("put", game, PUT, 241, 244, 249, 250, 251);
        let("put and step", game, PUT + STEP, 1, 241, 244, 249, 250, 251);
        Due.state(game, 1, "abababababab");
        let("full", game, PUT);
        let("take alone", game, TAKE + MUST);
    }

    private static void musts() {
        WhatGame game = new WhatGame();
        Due.line(game, 0, 0, 1, 2, 3);
        Due.line(game, 1, 0, 7);
        Due.state(game, 0, "ab");
        let("jump alone", game, STEP + 2 + JUMP + PUT + MUST, 2);
        let("without must", game, 2 + JUMP, 2, 7);
        let("no jump of its kind", game, 2 + 16 + MUST, 7);
        let("no jumps in it", game, 2 + MUST, 7);
        Due.state(game, 0, "a.b");
        let("none is let", game, STEP + JUMP + MUST, 1);
    }

    private static void ends() {
        WhatGame game = new WhatGame();
        Due.line(game, 0, 0, 1, 2, 3);
        Due.state(game, 0, "a.a.b");
        DUE.is("end 2", game.over(STEP + END_2), -1);
        let("end 2", game, STEP + END_2, 1, 33, 35);
        DUE.is("end 3", game.over(STEP + END_3), 1);
        let("end 3", game, STEP + PUT + END_3);
        game.turn(1);
        DUE.is("end 1", game.over(STEP + END_1), -1);
        DUE.is("end 2", game.over(STEP + END_2), 0);
        DUE.is("stuck, no end", game.over(STEP), -1);
        DUE.is("stuck", game.over(STEP + END_NONE), 0);
        DUE.is("not stuck", game.over(STEP + PUT + END_NONE), -1);
        DUE.is("both ends, one says so", game.over(STEP + PUT + END_NONE + END_2), 0);
        DUE.is("both ends, the other", game.over(STEP + END_NONE + END_1), 0);
        DUE.is("ends alone", game.over(END_NONE), 0);
        DUE.is("no code", game.over(0), -11);
        DUE.is("no code", game.over(4096), -11);
        DUE.is("no code", game.over(Integer.MIN_VALUE), -11);
        Due.state(game, 0, "");
        DUE.is("nobody there", game.over(STEP + END_1), 1);
        DUE.is("nobody there, no end", game.over(STEP), -1);
        DUE.is("refused", game.status(11), 3);
    }

    /** Ends none, by each KIND alone, wherever the pieces are. */
    private static void stuck() {
        for (int kind = 0; kind < 3; kind++) {
            for (int p = 0; p < 12; p++) {
                WhatGame game = new WhatGame();
                int q = (p + 5) % 12;
                int over = (p + 3) % 12;
                Due.line(game, kind, p, over, q);
                game.point(p, 1);
                for (int other = 0; other < 3; other++) {
                    int due = other == kind ? -1 : 1;
                    DUE.is("a step of kind " + other, game.over(END_NONE + (1 << other)), due);
                    DUE.is("a jump over nothing", game.over(END_NONE + (8 << other)), 1);
                }
                game.point(over, 2);
                for (int other = 0; other < 3; other++) {
                    int due = other == kind ? -1 : 1;
                    DUE.is("no step of kind " + other, game.over(END_NONE + (1 << other)), 1);
                    DUE.is("a jump of kind " + other, game.over(END_NONE + (8 << other)), due);
                    DUE.is("must of kind " + other, game.moves(PUT + MUST + (8 << other)), due == -1 ? 1 : 10);
                }
                let("a jump", game, 8 << kind, 16 * p + q);
                game.point(q, 1);
                DUE.is("full behind", game.over(END_NONE + (8 << kind)), 1);
            }
        }
    }

    private static void plays() {
        WhatGame game = new WhatGame();
        Due.line(game, 0, 0, 1, 2, 3);
        Due.state(game, 0, "a..b");
        DUE.is("step", game.play(STEP, 1), 2);
        stands("step", game, 1, ".a.b");
        DUE.is("put", game.play(PUT, 240), 3);
        stands("put", game, 0, "ba.b");
        DUE.is("jump, none taken", game.play(JUMP, 18), -6);
        game.point(2, 2);
        game.point(3, 0);
        DUE.is("jump", game.play(JUMP, 19), 3);
        stands("jump", game, 1, "b.ba");
        DUE.is("no code ahead of wrong", game.play(0, 999), -1);
        DUE.is("no code", game.play(4096, 1), -1);
        DUE.is("not lawful", game.play(STEP, 48 + 2), -6);
        game.turn(0);
        DUE.is("to the other side's", game.play(STEP, 16 * 3 + 2), -6);
        DUE.is("put to a piece", game.play(PUT, 240), -6);
        DUE.is("put to a piece", game.play(PUT, 243), -6);
        game.point(2, 1);
        DUE.is("to its own", game.play(STEP, 16 * 3 + 2), -6);
        game.point(2, 2);
        game.turn(1);
        DUE.is("not lawful: over", game.play(STEP + END_3, 1), -6);
        for (int move : new int[] {-1, 0, 12, 17, 192, 239, 252, 255, 256, 257, Integer.MAX_VALUE, Integer.MIN_VALUE}) {
            DUE.is("no move " + move, game.play(STEP + PUT, move), -6);
        }
        stands("as it was", game, 1, "b.ba");
        DUE.refusals(game, 2, 0, 0, 0, 0, 19, 0);
    }

    private static void stands(String call, WhatGame game, int turn, String points) {
        DUE.is(call + " turn", game.status(5), turn);
        String stands = Due.points(game);
        DUE.is(call + ": " + stands + " for " + points, stands.equals(points) ? 1 : 0, 1);
    }

    private static void takes() {
        WhatGame game = new WhatGame();
        Due.line(game, 0, 0, 3, 5);
        Due.line(game, 1, 0, 2, 5);
        Due.line(game, 2, 0, 5);
        Due.state(game, 0, "a.bb");
        DUE.is("the least point", game.play(8 + 16 + TAKE, 5), 2);
        stands("the least point", game, 1, "...b.a");
        Due.state(game, 0, "a.bb");
        DUE.is("of those it is let by", game.play(8 + TAKE, 5), 2);
        stands("of those it is let by", game, 1, "..b..a");
        Due.state(game, 0, "a.ab");
        DUE.is("not its own", game.play(8 + 16 + TAKE, 5), 2);
        stands("not its own", game, 1, "..a..a");
        Due.state(game, 0, "a.bb");
        DUE.is("a step first", game.play(4 + 8 + 16 + TAKE, 5), 3);
        stands("a step first", game, 1, "..bb.a");
        Due.state(game, 0, "a.bb");
        DUE.is("must: a jump", game.play(4 + 8 + 16 + TAKE + MUST, 5), 2);
        stands("must: a jump", game, 1, "...b.a");
        Due.state(game, 1, "b.aa");
        DUE.is("the other side", game.play(8 + 16 + TAKE, 5), 2);
        stands("the other side", game, 0, "...a.b");
        Due.state(game, 0, "a.bb");
        DUE.is("no take", game.play(8 + 16, 5), 3);
        stands("no take", game, 1, "..bb.a");
    }

    private static void values() {
        WhatGame game = new WhatGame();
        Due.line(game, 0, 0, 1, 2, 3);
        int code = STEP + JUMP + TAKE + END_1;
        Due.state(game, 0, "a.b");
        DUE.is("lost in two", game.value(code, 2), -1);
        DUE.is("not seen", game.value(code, 1), 0);
        DUE.is("not seen", game.value(code, 0), 0);
        DUE.is("lost still", game.value(code, 3), -1);
        DUE.is("no end, no loss", game.value(STEP + JUMP + TAKE, 3), 0);
        Due.state(game, 1, ".ab");
        DUE.is("won in one", game.value(code, 1), 1);
        DUE.is("not seen", game.value(code, 0), 0);
        DUE.is("won in one, far", game.value(code, 3), 1);
        Due.state(game, 0, "a...b");
        DUE.is("over for the other", game.value(code + 1024, 1), -1);
        DUE.is("over", game.value(code + 1024, 0), -1);
        Due.state(game, 0, "....a");
        DUE.is("no move, no end", game.value(code, 3), 0);
        DUE.is("no move", game.value(code + END_NONE, 0), -1);
        DUE.is("end none alone", game.value(END_NONE, 0), -1);
        Due.state(game, 1, "a..b");
        DUE.is("won in three", game.value(code, 3), 1);
        DUE.is("not in two", game.value(code, 2), 0);
        DUE.is("no code ahead of n", game.value(0, 9), -11);
        DUE.is("no code", game.value(4096, 0), -11);
        DUE.is("n", game.value(code, 4), -16);
        DUE.is("n", game.value(code, -1), -16);
        stands("as it was", game, 1, "a..b");
        DUE.refusals(game, 2, 0, 0, 0, 0, 2, 0);
    }

    private static void bests() {
        WhatGame game = new WhatGame();
        Due.line(game, 0, 0, 1, 2, 3, 4);
        int code = STEP + JUMP + TAKE + END_1;
        Due.state(game, 0, ".ab");
        DUE.is("the jump that wins", game.best(code, 1), 19);
        DUE.is("with two ahead", game.best(code, 2), 19);
        DUE.is("the first, no ends", game.best(STEP + JUMP + TAKE, 1), 16);
        Due.state(game, 0, ".a.b");
        DUE.is("all alike", game.best(code, 1), 16);
        DUE.is("not into the jump", game.best(code, 2), 16);
        Due.state(game, 0, "a.b");
        DUE.is("the only one", game.best(code, 2), 1);
        game.tie(0, 6, 0, true);
        DUE.is("into the jump", game.best(code, 1), 1);
        DUE.is("out of the jump's way", game.best(code, 2), 6);
        game.tie(0, 6, 0, false);
        Due.state(game, 1, "a...b");
        game.point(3, 0);
        DUE.is("none but one", game.best(code, 3), 67);
        Due.state(game, 0, "....ab");
        DUE.is("over", game.best(code + 1024, 1), -1);
        Due.state(game, 0, ".....a");
        DUE.is("no move", game.best(code, 1), -1);
        DUE.is("put", game.best(PUT, 1), 240);
        DUE.is("no code ahead of n", game.best(0, 0), -11);
        DUE.is("no code", game.best(4096, 1), -11);
        DUE.is("n", game.best(code, 0), -16);
        DUE.is("n", game.best(code, 4), -16);
        DUE.refusals(game, 2, 0, 0, 0, 0, 2, 0);
    }
}
