import com.sun.management.ThreadMXBean;
import java.lang.management.ManagementFactory;

/**
 * The one room that all calls of a run live in (some 600,000 objects and arrays, 7.3 million fields and elements):
 * what an object takes when it is made, and that no call makes anything more, but for the RULES of rule().
 */
public final class RoomTest {
    private static final Due DUE = new Due("RoomTest");
    private static final ThreadMXBean THREADS = (ThreadMXBean) ManagementFactory.getThreadMXBean();
    /** With what full() needs these are fewer than 512 calls: an object is used for no more. */
    private static final int TIMES = 50;
    /** What measuring itself may take, all TIMES together: less than an object for each. */
    private static final long NEXT_TO_NOTHING = 700;
    private static final long MOST_BYTES_OF_A_RULE = 64;
    private static final long MOST_BYTES_OF_A_GAME = 40_000;

    private interface Call {
        long on(WhatGame game);
    }

    public static void main(String[] args) {
        anew();
        shelves();
        states();
        games();
        fitting();
        rest();
        rules();
        DUE.end();
    }

    private static long allocated() {
        return THREADS.getThreadAllocatedBytes(Thread.currentThread().getId());
    }

    /** A board with steps and jumps, six GAMES of 20 MOVES (five in THE IMAGE), six RULES (all in it). */
    private static WhatGame full() {
        WhatGame game = new WhatGame();
        Due.line(game, 0, 0, 1, 2, 3, 4, 5, 6, 7, 8, 9, 10, 11);
        int[] moves = new int[20];
        for (int k = 0; k < 20; k++) moves[k] = k % 4 == 0 ? 1 : k % 4 == 1 ? 187 - 1 : k % 4 == 2 ? 16 : 171;
        for (int i = 0; i < 5; i++) Due.game(game, "a..........b", -1, moves);
        for (int i = 0; i < 6; i++) Due.rule(game, "jump " + i % 3);
        game.show(0, 0);
        Due.state(game, 0, "aba..bab");
        game.image();
        game.game(5, 6, 20, -1);
        return game;
    }

    private static void anew() {
        new WhatGame();
        long ahead = allocated();
        for (int i = 0; i < TIMES; i++) new WhatGame().fits();
        long each = (allocated() - ahead) / TIMES;
        DUE.is("bytes of an object: " + each, each <= MOST_BYTES_OF_A_GAME ? 1 : 0, 1);
    }

    /** A call makes nothing: it is made once ahead, so that what the machine loads for it isn't counted. */
    private static void makesNothing(String call, Call made) {
        makesAtMost(call, 0, made);
    }

    private static void makesAtMost(String call, long bytesEach, Call made) {
        WhatGame game = full();
        made.on(game);
        long ahead = allocated();
        for (int i = 0; i < TIMES; i++) made.on(game);
        long bytes = allocated() - ahead;
        boolean isLittle = bytes <= TIMES * bytesEach + NEXT_TO_NOTHING;
        DUE.is(call + " made " + bytes + " bytes, " + TIMES + " times", isLittle ? 1 : 0, 1);
    }

    private static void shelves() {
        makesNothing("row", game -> game.row(3, 3, 60));
        makesNothing("set", game -> game.set(7, 1, 9));
        makesNothing("copy", game -> game.copy(6, 6, 0, 1, 19));
        makesNothing("element", game -> game.element(6, 1));
        makesNothing("show", game -> game.show(1, 1));
        makesNothing("holds", game -> game.holds(1));
        makesNothing("says", game -> game.says(0, 1));
    }

    private static void states() {
        makesNothing("tie", game -> game.tie(0, 5, 2, true) + game.tie(0, 5, 2, false));
        makesNothing("tied", game -> game.tied(0, 0));
        makesNothing("price", game -> game.price(4095));
        makesNothing("point", game -> game.point(3, 1) + game.point(3, 0));
        makesNothing("turn", game -> game.turn(0));
        makesNothing("moves", game -> game.moves(9));
        makesNothing("move", game -> game.move(9, 1));
        makesNothing("over", game -> game.over(4095));
        makesNothing("play", game -> game.play(1, 35) + game.point(3, 0) + game.point(2, 1) + game.turn(0));
        makesNothing("value", game -> game.value(9 + 64 + 128 + 512, 3));
        makesNothing("best", game -> game.best(9 + 128 + 512, 3));
    }

    private static void games() {
        makesNothing("game -7", game -> game.game(5, 6, 20, -1));
        makesNothing("game", game -> game.restore() + game.game(5, 6, 20, -1));
        makesNothing("gameOf", game -> game.gameOf(5, 119));
        makesNothing("load", game -> game.load(5, 20, 9));
        makesNothing("judge", game -> game.judge(5, 9));
        makesNothing("wide", game -> game.wide(511));
        makesNothing("part", game -> game.part(1, 9));
    }

    private static void fitting() {
        makesNothing("find, anew", game -> game.tie(0, 5, 2, true) + game.find() + game.tie(0, 5, 2, false));
        makesNothing("fits", WhatGame::fits);
        makesNothing("rivals", game -> game.rivals(9));
        makesNothing("rival", game -> game.rival(9, 1));
        makesNothing("tight, anew", game -> game.tie(0, 5, 2, true) + game.tight() + game.tie(0, 5, 2, false));
        makesNothing("sure", game -> game.sure(1, 9));
        makesNothing("ask", game -> game.ask(9));
        makesNothing("left", game -> game.left(9));
        makesNothing("cheat, anew", game -> game.cheat(9, 0) + game.cheat(10, 1));
        makesNothing("same", game -> game.same(9, 36));
    }

    private static void rest() {
        makesNothing("fault", WhatGame::fault);
        makesNothing("ruleOf", game -> game.ruleOf(5, 1));
        makesNothing("act", game -> game.act(1, 2, 5));
        makesNothing("trace", game -> game.trace(0));
        makesNothing("image", WhatGame::image);
        makesNothing("restore", WhatGame::restore);
        makesNothing("status", game -> game.status(3));
    }

    /** rule() keeps what it read: one object, also when the RULES of THE IMAGE make way for others. */
    private static void rules() {
        makesAtMost("rule", MOST_BYTES_OF_A_RULE, game -> game.rule(7) + game.restore());
        makesNothing("rule -6", game -> game.rule(5));
        makesNothing("rule -2", game -> game.rule(0));
    }
}
