/** Promises 21 to 24, 29 and 31: game, gameOf, load, judge, wide, part. */
public final class GamesTest {
    private static final Due DUE = new Due("GamesTest");

    public static void main(String[] args) {
        games();
        refused();
        asInts();
        loads();
        unlawful();
        judged();
        wides();
        parts();
        DUE.end();
    }

    private static void games() {
        WhatGame game = new WhatGame();
        DUE.is("game", Due.game(game, "ab.........b", 1, 1, 251, 16 * 11 + 10), 0);
        DUE.is("of no moves", Due.game(game, "", -1), 1);
        DUE.is("of 20", Due.game(game, "", 0, twenty()), 2);
        DUE.is("games", game.status(1), 3);
        DUE.is("moves", game.status(2), 23);
        DUE.is("how many", game.gameOf(0, 0), 3);
        DUE.is("out", game.gameOf(0, 1), 1);
        DUE.is("move", game.gameOf(0, 100), 1);
        DUE.is("move", game.gameOf(0, 101), 251);
        DUE.is("move", game.gameOf(0, 102), 186);
        DUE.is("start", game.gameOf(0, 200), 1);
        DUE.is("start", game.gameOf(0, 201), 2);
        DUE.is("start", game.gameOf(0, 202), 0);
        DUE.is("start", game.gameOf(0, 211), 2);
        DUE.is("how many", game.gameOf(1, 0), 0);
        DUE.is("out", game.gameOf(1, 1), -1);
        DUE.is("out", game.gameOf(2, 1), 0);
        DUE.is("the last move", game.gameOf(2, 119), 240 + 7);
        int[][] none = {{3, 0}, {-1, 0}, {0, -1}, {0, 2}, {0, 99}, {0, 103}, {0, 199}, {0, 212}, {1, 100}, {2, 120}};
        for (int[] asked : none) DUE.is("none such " + asked[0] + " " + asked[1], game.gameOf(asked[0], asked[1]), -5);
        DUE.refusals(game, 0, 0, 0, 0, 10, 0, 0);
        for (int i = 3; i < 6; i++) DUE.is("game", Due.game(game, "", -1), i);
        DUE.is("room", Due.game(game, "", -1), -7);
        DUE.is("wrong ahead of room", Due.game(game, "", 2), -6);
        DUE.is("games", game.status(1), 6);
    }

    private static int[] twenty() {
        int[] moves = new int[20];
        for (int k = 0; k < 20; k++) moves[k] = 240 + k % 12;
        return moves;
    }

    private static void refused() {
        WhatGame game = new WhatGame();
        Due.row(game, 0, 0, 0, 1, 2, 0, 0, 0, 0, 0, 0, 0, 0, 0);
        Due.row(game, 1, 0, 0, 1, 2, 0, 0, 0, 0, 0, 0, 0, 0);
        Due.row(game, 2, 2, 1, 2);
        game.row(3, 2, 60);
        for (int i = 0; i < 60; i++) game.set(3, i, 1);
        Due.rule(game, "put");
        game.show(4, 0);
        DUE.is("no shelf", game.game(8, 4, -1, 9), -1);
        DUE.is("no shelf", game.game(4, -1, -1, 9), -1);
        DUE.is("a rule", game.game(4, 5, -1, 9), -2);
        DUE.is("a rule", game.game(5, 4, -1, 9), -2);
        DUE.is("nothing", game.game(5, 2, -1, 9), -3);
        DUE.is("nothing", game.game(0, 5, -1, 9), -3);
        DUE.is("below", game.game(1, 2, -1, 9), -4);
        DUE.is("a short start", game.game(1, 2, 1, 9), -5);
        DUE.is("too few moves", game.game(0, 2, 3, 9), -5);
        DUE.is("too few moves", game.game(0, 2, Integer.MAX_VALUE, 9), -5);
        DUE.is("21 moves", game.game(0, 3, 21, 0), -6);
        DUE.is("20 moves", game.game(0, 3, 20, 0), 0);
        DUE.is("out", game.game(0, 2, 2, -2), -6);
        DUE.is("out", game.game(0, 2, 2, 2), -6);
        game.set(0, 11, 3);
        DUE.is("start", game.game(0, 2, 2, 0), -6);
        game.set(0, 11, -1);
        DUE.is("start", game.game(0, 2, 2, 0), -6);
        game.set(0, 11, 0);
        game.set(0, 0, 3);
        DUE.is("start", game.game(0, 2, 2, 0), -6);
        for (int move : new int[] {-1, 0, 12, 15, 17, 187, 192, 193, 239, 252, 255, 256, 257, Integer.MIN_VALUE}) {
            DUE.is("no move " + move, withMove(move).game(0, 2, 2, 0), -6);
            DUE.is("behind n it is none", withMove(move).game(0, 2, 1, 0), 0);
        }
        for (int move : new int[] {1, 16, 186, 176, 240, 251}) DUE.is("move " + move, withMove(move).game(0, 2, 2, 0), 0);
        DUE.is("start and moves of one row", game.game(3, 3, 2, 0), 1);
    }

    /** A START in SHELF 0 and two MOVES in SHELF 2, the second as told. */
    private static WhatGame withMove(int move) {
        WhatGame game = new WhatGame();
        Due.row(game, 0, 0, 0, 1, 2, 0, 0, 0, 0, 0, 0, 0, 0, 0);
        Due.row(game, 2, 2, 1, move);
        return game;
    }

    private static void asInts() {
        WhatGame game = new WhatGame();
        game.row(0, 3, 13);
        for (int p = 0; p < 12; p++) game.set(0, p, (9L << 32) + p % 3);
        game.set(0, 12, 77);
        Due.row(game, 1, 3, 250 | Long.MIN_VALUE, 1L << 32);
        DUE.is("of longs the lowest 32 bits", game.game(0, 1, 1, -1), 0);
        DUE.is("start", game.gameOf(0, 211), 2);
        DUE.is("move", game.gameOf(0, 100), 250);
        DUE.is("move 0", game.game(0, 1, 2, -1), -6);
        Due.row(game, 1, 0, 250);
        DUE.is("of a byte -6", game.game(0, 1, 1, -1), -6);
        Due.row(game, 1, 0, 22);
        DUE.is("of a byte", game.game(0, 1, 1, -1), 1);
        game.set(0, 0, 2);
        DUE.is("the start is the game's own", game.gameOf(1, 200), 0);
    }

    private static void loads() {
        WhatGame game = new WhatGame();
        Due.line(game, 0, 0, 1, 2, 3);
        Due.game(game, "ab.", -1, 2, 241);
        int code = 8 + 64 + 128;
        DUE.is("load", game.load(0, 0, code), 0);
        stands("at the start", game, "ab");
        DUE.is("load", game.load(0, 1, code), 1);
        stands("taken", game, "..a");
        DUE.is("load", game.load(0, 2, code), 0);
        stands("the last", game, ".ba");
        DUE.is("load", game.load(0, 1, 8), 1);
        stands("not taken", game, ".ba");
        DUE.is("k", game.load(0, 3, code), -6);
        DUE.is("k", game.load(0, -1, code), -6);
        DUE.is("no game", game.load(1, 9, code), -1);
        DUE.is("no game", game.load(-1, 0, code), -1);
        DUE.is("no code", game.load(0, 9, 0), -1);
        DUE.is("no code", game.load(0, 0, 4096), -1);
        stands("as it was", game, ".ba");
        DUE.is("turn", game.status(5), 1);
        DUE.refusals(game, 4, 0, 0, 0, 0, 2, 0);
    }

    private static void stands(String call, WhatGame game, String points) {
        String stands = Due.points(game);
        DUE.is(call + ": " + stands + " for " + points, stands.equals(points) ? 1 : 0, 1);
    }

    private static void unlawful() {
        after("a piece far off", "ab", 9, 1 + 128, ".b.......a");
        after("the other side's", "ab", 16 + 9, 1 + 128, "a........b");
        after("to a piece", "ab", 1, 1 + 128, ".a");
        after("nothing to a piece", "ab", 16 * 5, 1 + 128, ".b");
        after("put to a piece", "ab", 241, 64 + 128, "aa");
        after("put without put", "ab", 242, 1, "aba");
        after("a jump without jumps takes none", "ab", 2, 1 + 128, ".ba");
        after("a jump behind the end takes none", "ab", 2, 8 + 128 + 2048, ".ba");
        after("the other side's over its own takes none", "bb", 2, 8 + 128, ".bb");
        after("over, to the other side's, takes none", "abb", 2, 8 + 128, ".ba");
        after("over, to its own, takes none", "aba", 2, 8 + 128, ".ba");
        after("from nothing over, takes none", ".b", 2, 8 + 128, ".b");
        after("from nothing over, to a piece", ".ba", 2, 8 + 128, ".b");
        after("over its own takes none", "aa", 2, 8 + 128, ".aa");
        after("a put where a jump must be", "ab", 245, 8 + 64 + 128 + 256, "ab...a");
        after("a put behind the end", "ab", 245, 64 + 2048, "ab...a");
        after("a step behind the end", "a.b", 1, 1 + 2048, ".ab");
        after("a jump takes", "ab", 2, 8 + 128 + 1024, "..a");
        after("a step where a jump must be", "ab.a", 16 * 3 + 4, 1 + 8 + 128 + 256, "ab..a");
    }

    /** What stands after a MOVE of side 0 by a CODE. */
    private static void after(String call, String start, int move, int code, String points) {
        WhatGame game = new WhatGame();
        Due.line(game, 0, 0, 1, 2, 3, 4);
        DUE.is(call, Due.game(game, start, -1, move), 0);
        DUE.is(call, game.load(0, 1, code), 1);
        stands(call, game, points);
    }

    private static void judged() {
        WhatGame game = new WhatGame();
        Due.line(game, 0, 0, 1, 2, 3, 4, 5, 6);
        Due.game(game, "a....b", -1, 1, 84, 18, 67, 36);
        Due.game(game, "a....b", 0, 1, 84, 18, 67, 36);
        Due.game(game, "a....b", 1, 1, 84, 18, 67, 36);
        DUE.is("fits", game.judge(0, 9), -1);
        DUE.is("no jump", game.judge(0, 1), 4);
        DUE.is("no step", game.judge(0, 8), 0);
        DUE.is("over ahead", game.judge(0, 9 + 2048), 0);
        DUE.is("isn't over", game.judge(1, 9), 5);
        DUE.is("isn't over", game.judge(2, 9), 5);
        DUE.is("is over", game.judge(0, 9 + 128 + 1024), 5);
        DUE.is("0 has won", game.judge(1, 9 + 128 + 1024), -1);
        DUE.is("0 has won, not 1", game.judge(2, 9 + 128 + 1024), 5);
        DUE.is("stuck", game.judge(1, 9 + 128 + 512), -1);
        DUE.is("not stuck", game.judge(1, 9 + 64 + 128 + 512), 5);
        DUE.is("must, as it went", game.judge(0, 9 + 256), -1);
        Due.game(game, "ab", -1, 2);
        Due.game(game, "a.b", -1, 33);
        Due.game(game, "", -1);
        DUE.is("a jump", game.judge(3, 8), -1);
        DUE.is("the other side's", game.judge(4, 1), 0);
        DUE.is("no moves, none is over", game.judge(5, 1), -1);
        DUE.is("no moves, over", game.judge(5, 1 + 1024), 0);
        DUE.is("no game", game.judge(6, 1), -11);
        DUE.is("no game", game.judge(-1, 1), -11);
        DUE.is("no code", game.judge(0, 0), -11);
        DUE.is("no code", game.judge(0, 4096), -11);
        DUE.refusals(game, 4, 0, 0, 0, 0, 0, 0);
        game = new WhatGame();
        Due.line(game, 0, 0, 1, 2, 3);
        Due.game(game, "ab...", -1, 245);
        DUE.is("must forbids", game.judge(0, 8 + 64 + 256), 0);
        DUE.is("without must", game.judge(0, 8 + 64), -1);
    }

    private static void wides() {
        WhatGame game = new WhatGame();
        DUE.is("no games", game.wide(9), 0);
        Due.line(game, 0, 0, 1, 2, 3, 4, 5, 6);
        Due.game(game, "a....b", -1, 1, 84, 18, 67, 36);
        DUE.is("one game", game.wide(9), 9);
        DUE.is("with must", game.wide(9 + 256), 8);
        DUE.is("steps alone", game.wide(1), 8);
        DUE.is("jumps alone, behind unlawful ones too", game.wide(8), 1);
        DUE.is("over", game.wide(9 + 2048), 0);
        Due.game(game, "a....b", -1, 1, 84, 18, 67, 36);
        Due.game(game, "a....b", -1);
        DUE.is("like ones count each, the last states not", game.wide(9), 18);
        DUE.is("no code", game.wide(0), -1);
        DUE.is("no code", game.wide(4096), -1);
        DUE.refusals(game, 2, 0, 0, 0, 0, 0, 0);
    }

    private static void parts() {
        WhatGame game = new WhatGame();
        DUE.is("no games", game.part(1, 8), -1);
        Due.line(game, 0, 0, 1, 2, 3, 4, 5, 6);
        Due.game(game, "........ab", -1);
        Due.game(game, "a....b", -1, 1, 84, 18, 67, 36, 50);
        DUE.is("ends alone", game.part(9, 9 + 1024), -1);
        DUE.is("a jump", game.part(9, 1), 104);
        DUE.is("a jump", game.part(1, 9), 104);
        DUE.is("must", game.part(9 + 256, 9), 104);
        DUE.is("over", game.part(9, 9 + 2048), 100);
        DUE.is("put", game.part(9, 9 + 64), 100);
        DUE.is("like", game.part(9, 9), -1);
        DUE.is("kinds that tie nothing", game.part(9, 9 + 2 + 4 + 16 + 32), -1);
        // Behind the take side 1 has no piece by the first CODE; by the other it may step.
        DUE.is("by the first that takes", game.part(9 + 128, 9), -1);
        DUE.is("by the first that doesn't", game.part(9, 9 + 128 + 512), -1);
        DUE.is("steps and jumps", game.part(1, 8), 100);
        DUE.is("no code", game.part(0, 1), -11);
        DUE.is("no code", game.part(1, 4096), -11);
        DUE.refusals(game, 2, 0, 0, 0, 0, 0, 0);
        game = new WhatGame();
        Due.line(game, 0, 0, 1, 2, 3);
        Due.game(game, "ab", -1, 2, 16);
        DUE.is("taken: no step back", game.part(1 + 8 + 128, 2 + 8), -1);
        DUE.is("not taken: a step back", game.part(1 + 8, 2 + 8), 1);
    }
}
