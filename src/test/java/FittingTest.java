/** Promises 25 to 28, 30 and 32 to 36: find, fits, rivals, rival, tight, sure, ask, left, cheat, same. */
public final class FittingTest {
    private static final Due DUE = new Due("FittingTest");

    public static void main(String[] args) {
        withoutGames();
        onePut();
        tightness();
        ended();
        noneFits();
        foundAnew();
        asking();
        askingOfSteps();
        askingByMust();
        cheating();
        cheatingByEnds();
        sameness();
        DUE.end();
    }

    private static void withoutGames() {
        WhatGame game = new WhatGame();
        DUE.is("fits", game.fits(), 4095);
        DUE.is("find", game.find(), 128);
        DUE.is("rivals", game.rivals(0), 3);
        DUE.is("rival", game.rival(0, 1), 256);
        DUE.is("rival", game.rival(0, 2), 512);
        DUE.is("rival by 1", game.rival(1, 3), 1);
        DUE.is("tight", game.tight(), 128);
        DUE.is("cheat", game.cheat(25, 0), 0);
        DUE.is("cheat", game.cheat(25, 1), 1);
        DUE.refusals(game, 0, 0, 0, 0, 0, 0, 0);
    }

    private static void rivals(WhatGame game, int x, int... codes) {
        DUE.is("rivals by " + x, game.rivals(x), codes.length);
        for (int i = 0; i < codes.length; i++) DUE.is("rival " + i + " by " + x, game.rival(x, i), codes[i]);
        DUE.is("no more by " + x, game.rival(x, codes.length), -5);
    }

    private static void onePut() {
        WhatGame game = new WhatGame();
        Due.game(game, "", -1, 240);
        DUE.is("all with put and no end N", game.fits(), 512);
        DUE.is("find", game.find(), 64);
        rivals(game, 0, 64);
        rivals(game, 1, 64, 192, 320, 576);
        rivals(game, 2, 64, 192, 320, 576, 65, 66, 68, 448, 704, 832);
        DUE.is("tight", game.tight(), 64);
        DUE.is("by all but jumps and steps", game.rivals(9), game.rivals(8) + countAt(11));
        DUE.is("x", game.rivals(10), -6);
        DUE.is("x", game.rivals(-1), -6);
        DUE.is("x", game.rival(10, 0), -5);
        DUE.is("x", game.rival(-1, 0), -5);
        DUE.is("i", game.rival(0, -1), -5);
        DUE.is("i", game.rival(9, 4095), -5);
        DUE.refusals(game, 0, 0, 0, 0, 7, 2, 0);
    }

    /** How many CODES with put and no end N have a PRICE. */
    private static int countAt(int price) {
        int count = 0;
        WhatGame game = new WhatGame();
        for (int code = 64; code < 1024; code++) {
            if (code == 512) game = new WhatGame();
            if ((code & 64) != 0 && game.price(code) == price) count++;
        }
        return count;
    }

    private static WhatGame stepsAndAJump(int out) {
        WhatGame game = new WhatGame();
        Due.line(game, 0, 0, 1, 2, 3, 4, 5, 6);
        Due.game(game, "a....b", out, 1, 84, 18, 67, 36);
        return game;
    }

    private static void tightness() {
        WhatGame game = stepsAndAJump(-1);
        DUE.is("find", game.find(), 9);
        DUE.is("with must there are fewer", game.tight(), 9 + 256);
        DUE.is("tight again", game.tight(), 9 + 256);
        rivals(game, 1, 9, 9 + 128, 9 + 256, 9 + 512);
        game = stepsAndAJump(0);
        DUE.is("find", game.find(), 9 + 128 + 512);
        DUE.is("tight", game.tight(), 9 + 128 + 256 + 512);
        // Of several as tight the first: the kind that ties nothing adds nothing.
        game = new WhatGame();
        Due.line(game, 1, 0, 1);
        Due.line(game, 2, 0, 1);
        Due.line(game, 2, 0, 2);
        Due.game(game, "a", -1, 1);
        DUE.is("find", game.find(), 2);
        DUE.is("tight", game.tight(), 2);
        Due.game(game, "a", -1, 2);
        DUE.is("find", game.find(), 4);
        DUE.is("tight", game.tight(), 4);
    }

    private static void ended() {
        WhatGame game = stepsAndAJump(0);
        DUE.is("all fit", game.judge(0, game.rival(9, game.rivals(9) - 1)), -1);
        int fits = 0;
        for (int code = 1; code < 4096; code++) {
            if (code % 400 == 0) game = stepsAndAJump(0);
            fits += game.judge(0, code) == -1 ? 1 : 0;
        }
        DUE.is("fits, one by one", stepsAndAJump(0).fits(), fits);
        game = stepsAndAJump(1);
        DUE.is("the other side can't have won", game.fits(), 0);
        game = new WhatGame();
        Due.game(game, "", 1);
        DUE.is("at once, by end none", game.find(), 512);
        DUE.is("or by end N", game.rival(1, 1), 512 + 128);
        DUE.is("or by end N alone", game.rival(1, 3), 1024);
    }

    private static void noneFits() {
        WhatGame game = new WhatGame();
        Due.game(game, "", -1, 1);
        DUE.is("fits", game.fits(), 0);
        DUE.is("find", game.find(), -5);
        DUE.is("rivals", game.rivals(9), 0);
        DUE.is("rival", game.rival(9, 0), -5);
        DUE.is("tight", game.tight(), -5);
        DUE.is("tight", game.tight(), -5);
        DUE.is("sure, ahead of x and move", game.sure(0, 10), -5);
        DUE.is("ask", game.ask(9), -1);
        DUE.is("left", game.left(9), 0);
        DUE.is("ask x", game.ask(10), -16);
        DUE.is("left x", game.left(-1), -6);
        DUE.is("rivals x", game.rivals(10), -6);
        DUE.refusals(game, 0, 0, 0, 0, 5, 3, 0);
    }

    private static void foundAnew() {
        WhatGame game = new WhatGame();
        DUE.is("image", game.image(), 0);
        DUE.is("find", game.find(), 128);
        DUE.is("cheat", game.cheat(9, 1), 1);
        DUE.is("tight", game.tight(), 128);
        Due.game(game, "a", -1, 1);
        DUE.is("none fits", game.find(), -5);
        DUE.is("none is tight", game.tight(), -5);
        DUE.is("cheat", game.cheat(9, 0), 1);
        game.tie(0, 1, 2, true);
        DUE.is("with a tie", game.find(), 4);
        DUE.is("tight", game.tight(), 4);
        DUE.is("cheat", game.cheat(9, 1), 4);
        game.tie(0, 1, 2, false);
        DUE.is("without it", game.fits(), 0);
        game.tie(0, 1, 0, true);
        DUE.is("with another", game.find(), 1);
        DUE.is("restore", game.restore(), 0);
        DUE.is("as ahead", game.find(), 128);
        DUE.is("as ahead", game.fits(), 4095);
        DUE.is("as ahead", game.tight(), 128);
        DUE.is("as ahead", game.cheat(9, 1), 1);
    }

    private static void asking() {
        WhatGame game = new WhatGame();
        Due.game(game, "", -1, 240);
        DUE.is("none by some alone", game.ask(9), -1);
        DUE.is("no ask", game.left(9), 0);
        DUE.is("by all", game.sure(240, 9), 1);
        DUE.is("by none", game.sure(1, 9), 0);
        Due.line(game, 0, 0, 1);
        Due.line(game, 1, 0, 2);
        Due.line(game, 2, 0, 2);
        game.point(0, 1);
        DUE.is("least alone", game.ask(1), -1);
        DUE.is("by one of ten", game.sure(1, 2), 2);
        DUE.is("by two of ten", game.sure(2, 2), 2);
        DUE.is("by none", game.sure(3, 2), 0);
        DUE.is("by none: there is a piece", game.sure(240, 2), 0);
        DUE.is("by all", game.sure(241, 2), 1);
        DUE.is("ask", game.ask(2), 2);
        DUE.is("left", game.left(2), 8);
        game.tie(0, 2, 2, false);
        DUE.is("the least move", game.ask(2), 1);
        DUE.is("left", game.left(2), 9);
        game.tie(0, 2, 2, true);
        game.tie(0, 1, 1, true);
        game.tie(0, 1, 2, true);
        DUE.is("more let it", game.ask(2), 1);
        DUE.is("left", game.left(2), 7);
        game.turn(1);
        DUE.is("by none", game.sure(1, 2), 0);
        DUE.is("none by some", game.ask(2), -1);
        for (int move : new int[] {-1, 0, 17, 12, 192, 239, 252, 256, 257}) DUE.is("no move", game.sure(move, 2), -6);
        DUE.is("x", game.sure(1, 10), -6);
        DUE.is("x", game.sure(1, -1), -6);
        DUE.is("x", game.ask(-1), -16);
        DUE.is("x", game.ask(10), -16);
        DUE.is("x", game.left(10), -6);
        DUE.refusals(game, 0, 0, 0, 0, 0, 14, 0);
    }

    private static void askingOfSteps() {
        WhatGame game = new WhatGame();
        Due.line(game, 0, 0, 1);
        Due.line(game, 1, 2, 0);
        Due.game(game, "a", -1, 1);
        Due.state(game, 0, "..a");
        // By 1: step 0, and that with take or must; with end none the other side would be stuck.
        DUE.is("by none", game.sure(32, 1), 0);
        Due.state(game, 0, ".a");
        DUE.is("to the first point, by all", game.sure(16, 1), 1);
        Due.state(game, 0, ".aa");
        DUE.is("by one of seven", game.sure(32, 2), 2);
        rivals(game, 2, 1, 129, 257, 3, 5, 65, 385);
        DUE.is("ask", game.ask(2), 16 * 2);
        DUE.is("left", game.left(2), 6);
    }

    private static void askingByMust() {
        WhatGame game = stepsAndAJump(-1);
        Due.state(game, 0, ".ab");
        // By 1: 9, 9 with take, 9 with must, 9 with end none. The step back only without must.
        DUE.is("step back", game.sure(16, 1), 2);
        DUE.is("jump", game.sure(19, 1), 1);
        DUE.is("ask", game.ask(1), 16);
        DUE.is("left", game.left(1), 3);
        Due.state(game, 0, "a");
        DUE.is("no jump, no must", game.sure(1, 1), 1);
        DUE.is("end none, not stuck", game.ask(1), -1);
        Due.state(game, 0, ".......a");
        DUE.is("stuck", game.sure(1, 1), 0);
    }

    private static void cheating() {
        WhatGame game = new WhatGame();
        Due.line(game, 0, 0, 1, 2, 3, 4, 5, 6);
        Due.game(game, "a....b", -1, 1, 84, 16 + 9, 67, 36);
        DUE.is("none fits", game.fits(), 0);
        // By step 0: the MOVE far off; 67 is let; 36 goes from an empty POINT.
        DUE.is("cheat", game.cheat(2, 0), 2);
        DUE.is("cheat", game.cheat(2, 1), 1);
        DUE.is("cheat", game.cheat(25, 0), 2);
        DUE.is("cheat by what lets none", game.cheat(1, 0), 5);
        DUE.is("cheat by what lets none", game.cheat(1, 1), 128);
        Due.game(game, "a....b", 0);
        DUE.is("a game that didn't go out so", game.cheat(2, 0), 3);
        DUE.is("of several the least", game.cheat(2, 1), 1);
        DUE.is("of several the least", game.cheat(25, 1), 1);
        Due.game(game, "a....b", -1, 1, 84, 18, 67, 36);
        DUE.is("as two games go", game.cheat(4, 0), 4);
        DUE.is("as two games go", game.cheat(4, 1), 1);
        DUE.is("with a jump, of a higher price", game.cheat(5, 0), 3);
        DUE.is("with a jump, of a higher price", game.cheat(5, 1), 9);
        DUE.is("price", game.cheat(0, 0), -6);
        DUE.is("price", game.cheat(26, 0), -6);
        DUE.is("what", game.cheat(5, 2), -6);
        DUE.is("what", game.cheat(5, -1), -6);
        DUE.refusals(game, 0, 0, 0, 0, 0, 4, 0);
    }

    private static void cheatingByEnds() {
        WhatGame game = new WhatGame();
        Due.game(game, "", 1);
        Due.game(game, "", 1);
        DUE.is("over at once", game.cheat(1, 0), 0);
        DUE.is("by end none", game.cheat(1, 1), 512);
        Due.game(game, "", -1, 240, 241);
        DUE.is("what comes behind the end, and that it went out", game.cheat(1, 0), 3);
        DUE.is("by end none still", game.cheat(1, 1), 512);
    }

    private static void sameness() {
        WhatGame game = new WhatGame();
        int[][] ways = {{0, 1, 2}, {0, 2, 1}, {1, 0, 2}, {1, 2, 0}, {2, 0, 1}, {2, 1, 0}};
        for (int way = 0; way < 6; way++) {
            // Step 0, and jump 1: where they go to tells the way.
            int other = 1 << ways[way][0] | 8 << ways[way][1];
            DUE.is("way " + way, game.same(1 + 16, other), way);
            DUE.is("way " + way + " and more", game.same(1 + 16 + 3584, other + 3584), way);
        }
        DUE.is("the first of several", game.same(7, 7), 0);
        DUE.is("the first of several", game.same(1 + 2, 2 + 4), 3);
        DUE.is("none of a kind", game.same(64, 64), 0);
        DUE.is("more steps", game.same(1, 3), -1);
        DUE.is("a jump for a step", game.same(1, 8), -1);
        DUE.is("step and jump of one kind, or of two", game.same(1 + 8, 1 + 16), -1);
        DUE.is("take besides", game.same(1, 1 + 128), -1);
        DUE.is("another end", game.same(1 + 1024, 1 + 2048), -1);
        DUE.is("no code", game.same(0, 1), -11);
        DUE.is("no code", game.same(1, 0), -11);
        DUE.is("no code", game.same(4096, 4096), -11);
        DUE.refusals(game, 3, 0, 0, 0, 0, 0, 0);
    }
}
