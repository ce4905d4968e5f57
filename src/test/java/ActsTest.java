/** Promises 39 to 43: act, trace, image, restore, status. */
public final class ActsTest {
    private static final Due DUE = new Due("ActsTest");
    private static final String[] TEXTS = {"step 1", "jump 2", "put", "take", "must", "end 2", "put;take", "end none"};

    public static void main(String[] args) {
        goes();
        lets();
        ends();
        wraps();
        noAct();
        images();
        shownRules();
        statuses();
        DUE.end();
    }

    private static WhatGame ofAllKinds() {
        WhatGame game = new WhatGame();
        for (String text : TEXTS) Due.rule(game, text);
        return game;
    }

    private static void ran(String call, WhatGame game, int... bodies) {
        DUE.is(call + " bodies", game.status(6), bodies.length);
        for (int i = 0; i < bodies.length; i++) DUE.is(call + " body " + i, game.trace(i), bodies[i]);
        DUE.is(call + " no more", game.trace(bodies.length), -1);
        DUE.is(call + " none", game.trace(-1), -1);
    }

    private static void goes() {
        WhatGame game = ofAllKinds();
        DUE.is("step", game.act(0, 0, 5), 15);
        ran("step", game, 20, 10);
        DUE.is("jump", game.act(1, 0, 5), (5 + 1 + 1) * 3);
        ran("jump", game, 30, 20, 10);
        DUE.is("put", game.act(2, 0, 5), 7);
        ran("put", game, 10);
        DUE.is("take", game.act(3, 0, 5), 8);
        DUE.is("must", game.act(4, 0, 5), 9);
        DUE.is("end", game.act(5, 0, 5), 10);
        ran("end", game, 10);
        DUE.is("joined", game.act(6, 0, 5), 5 + 6 - 7);
        ran("joined", game, 80, 10);
    }

    private static void lets() {
        WhatGame game = ofAllKinds();
        DUE.is("step", game.act(0, 1, 5), 30);
        ran("step", game, 11, 20, 10);
        DUE.is("jump", game.act(1, 1, 5), 42 - 3);
        ran("jump", game, 31, 11, 30, 20, 10);
        DUE.is("put", game.act(2, 1, 5), -14);
        ran("put", game, 40, 11, 10);
        DUE.is("take", game.act(3, 1, 5), 16);
        ran("take", game, 11, 10);
        DUE.is("must", game.act(4, 1, 1), 10 ^ 9);
        DUE.is("must", game.act(4, 1, 5), 18 ^ 9);
        ran("must", game, 60, 11, 10);
        DUE.is("end", game.act(5, 1, 5), 20);
        DUE.is("joined", game.act(6, 1, 5), 8);
        ran("joined", game, 11, 80, 10);
    }

    private static void ends() {
        WhatGame game = ofAllKinds();
        DUE.is("step", game.act(0, 2, 5), 30 ^ (5 - 2) * 3);
        ran("step", game, 12, 11, 20, 10, 20, 10);
        DUE.is("jump", game.act(1, 2, 5), 39 ^ (5 - 3 + 1 + 1) * 3);
        ran("jump", game, 12, 31, 11, 30, 20, 10, 30, 20, 10);
        DUE.is("put", game.act(2, 2, 5), -14 ^ 5 - 2 + 2);
        ran("put", game, 12, 40, 11, 10, 10);
        DUE.is("take", game.act(3, 2, 5), (16 ^ 5 - 1 + 3) + 3);
        ran("take", game, 50, 12, 11, 10, 10);
        DUE.is("must", game.act(4, 2, 5), 18 ^ 9 ^ 5 - 1 + 4);
        ran("must", game, 12, 60, 11, 10, 10);
        DUE.is("end", game.act(5, 2, 5), (20 ^ 5 - 2 + 5) * 2);
        ran("end", game, 70, 12, 11, 10, 10);
        DUE.is("joined", game.act(6, 2, 5), (8 + 6 - 7) * 2 ^ 8 - 3 + 6 - 7);
        ran("joined", game, 81, 12, 11, 80, 10, 80, 10);
        DUE.is("end none", game.act(7, 2, 5), (24 ^ 5 - 1 + 7) * 2);
    }

    private static void wraps() {
        WhatGame game = ofAllKinds();
        int most = Integer.MAX_VALUE;
        DUE.is("jump", game.act(1, 0, most), (most + 1 + 1) * 3);
        DUE.is("must", game.act(4, 1, most), (most + 4) * 2 ^ 9);
        DUE.is("step", game.act(0, 2, Integer.MIN_VALUE), 0 ^ (most - 1) * 3);
    }

    private static void noAct() {
        WhatGame game = ofAllKinds();
        int[][] none = {{8, 0}, {-1, 0}, {0, 3}, {0, -1}};
        for (int[] asked : none) {
            game.act(0, 2, 5);
            DUE.is("no act", game.act(asked[0], asked[1], 5), 0);
            ran("no act", game);
        }
        DUE.refusals(game, 0, 0, 0, 0, 0, 0, 0);
    }

    private static void images() {
        WhatGame game = new WhatGame();
        DUE.is("no image", game.restore(), -6);
        Due.line(game, 0, 0, 1, 2);
        Due.game(game, "ab", -1, 2);
        Due.rule(game, "put");
        Due.state(game, 1, "ab.a");
        game.act(0, 0, 1);
        DUE.is("image", game.image(), 1);
        game.tie(0, 1, 0, false);
        game.tie(5, 6, 2, true);
        Due.game(game, "b", 1, 251, 250);
        Due.rule(game, "take");
        Due.rule(game, "putt");
        Due.state(game, 0, "bbb");
        Due.row(game, 0, 1, 77);
        game.act(1, 1, 1);
        DUE.is("restore", game.restore(), 1);
        DUE.is("tied", game.tied(1, 0), 5);
        DUE.is("tied", game.tied(5, 2), 0);
        int[] due = {1, 1, 1, 2, 3, 1, 2};
        for (int what = 0; what < 7; what++) DUE.is("status " + what, game.status(what), due[what]);
        DUE.is("now", Due.points(game).equals("ab.a") ? 1 : 0, 1);
        DUE.is("no second game", game.gameOf(1, 0), -5);
        DUE.is("the trace stays", game.trace(0), 11);
        DUE.is("the fault stays", game.fault(), 3);
        DUE.is("shelves stay", game.element(0, 0), 77);
        DUE.is("refusals stay", game.status(16), 2);
        DUE.is("a rule anew", Due.rule(game, "must"), 1);
        DUE.is("its code", game.ruleOf(1, 0), 256);
        DUE.is("a game anew", Due.game(game, "b", 0), 1);
        DUE.is("its start", game.gameOf(1, 200), 2);
        DUE.is("restore again", game.restore(), 1);
        DUE.is("rules", game.status(0), 1);
        Due.game(game, "a", 1);
        DUE.is("another image", game.image(), 2);
        game.turn(0);
        DUE.is("restore that", game.restore(), 2);
        DUE.is("turn", game.status(5), 1);
        DUE.is("its game", game.gameOf(1, 1), 1);
    }

    private static void shownRules() {
        WhatGame game = new WhatGame();
        Due.rule(game, "put");
        game.image();
        Due.rule(game, "take");
        game.show(0, 0);
        game.show(1, 1);
        game.row(2, 3, 1);
        game.row(3, 0, 1);
        game.restore();
        DUE.is("a rule still", game.holds(0), 0);
        DUE.is("nothing now", game.holds(1), -1);
        DUE.is("a row of bytes still", game.holds(3), 100);
        Due.rule(game, "take");
        game.show(0, 1);
        game.show(7, 1);
        game.restore();
        DUE.is("nothing in the first", game.holds(0), -1);
        DUE.is("nothing in the last", game.holds(7), -1);
        game.show(0, 0);
        DUE.is("a row still", game.holds(2), 103);
        DUE.is("nothing says nothing", game.says(1, 0), -3);
        Due.rule(game, "must");
        DUE.is("nothing still", game.holds(1), -1);
        game.image();
        game.show(1, 1);
        DUE.is("restore", game.restore(), 0);
        DUE.is("the rule of its number", game.says(1, 5), 1);
    }

    private static void statuses() {
        WhatGame game = new WhatGame();
        Due.rule(game, "put");
        Due.game(game, "a", -1, 1, 16);
        Due.game(game, "a", -1, 1);
        game.tie(0, 1, 0, true);
        game.tie(0, 1, 1, true);
        game.tie(1, 2, 1, true);
        Due.state(game, 1, "ab.b");
        game.act(0, 0, 0);
        int[] due = {1, 2, 3, 3, 3, 1, 1};
        for (int what = 0; what < 7; what++) DUE.is("status " + what, game.status(what), due[what]);
        for (int what : new int[] {-1, 7, 8, 9, 10, 18, 99, Integer.MAX_VALUE, Integer.MIN_VALUE}) {
            DUE.is("no such", game.status(what), -1);
        }
        game.price(0);
        game.over(0);
        game.show(0, 0);
        game.set(0, 0, 0);
        game.says(1, 0);
        game.says(2, 0);
        game.row(0, 0, -1);
        game.rival(0, -1);
        game.ask(10);
        game.turn(3);
        game.left(10);
        game.row(0, 0, 61);
        DUE.refusals(game, 2, 1, 2, 1, 1, 3, 1);
    }
}
