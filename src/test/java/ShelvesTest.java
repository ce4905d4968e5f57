/** Promises 1 to 8: a new object, row, set, copy, element, show, holds, says. */
public final class ShelvesTest {
    private static final Due DUE = new Due("ShelvesTest");

    public static void main(String[] args) {
        anew();
        rows();
        sets();
        copies();
        elements();
        shows();
        saying();
        DUE.end();
    }

    private static void anew() {
        WhatGame game = new WhatGame();
        for (int s = 0; s < 8; s++) DUE.is("holds", game.holds(s), -1);
        for (int what = 0; what <= 6; what++) DUE.is("status " + what, game.status(what), 0);
        DUE.refusals(game, 0, 0, 0, 0, 0, 0, 0);
        for (int p = 0; p < 12; p++) {
            for (int kind = 0; kind < 3; kind++) DUE.is("tied", game.tied(p, kind), 0);
            DUE.is("point", game.point(p, 0), 0);
        }
        DUE.is("turn", game.turn(0), 0);
        DUE.is("ruleOf", game.ruleOf(0, 0), -5);
        DUE.is("gameOf", game.gameOf(0, 0), -5);
        DUE.is("trace", game.trace(0), -1);
        DUE.is("restore", game.restore(), -6);
        DUE.is("NONE", WhatGame.NONE, -1);
    }

    private static void rows() {
        WhatGame game = new WhatGame();
        for (int sort = 0; sort < 4; sort++) {
            DUE.is("row", game.row(sort, sort, 60), 1);
            DUE.is("holds", game.holds(sort), 100 + sort);
        }
        DUE.is("row of none", game.row(7, 0, 0), 1);
        DUE.is("set in none", game.set(7, 0, 1), -5);
        game.set(0, 59, 9);
        DUE.is("row again", game.row(0, 3, 61), -7);
        DUE.is("as it was", game.element(0, 59), 9);
        DUE.is("row anew", game.row(0, 3, 60), 1);
        DUE.is("all 0", game.element(0, 59), 0);
        DUE.is("no shelf", game.row(-1, 9, -1), -1);
        DUE.is("no shelf", game.row(8, 0, 1), -1);
        DUE.is("below ahead of sort", game.row(0, 4, -1), -4);
        DUE.is("below", game.row(0, 0, Integer.MIN_VALUE), -4);
        DUE.is("sort ahead of room", game.row(0, 4, 61), -6);
        DUE.is("sort", game.row(0, -1, 1), -6);
        DUE.is("room", game.row(0, 0, Integer.MAX_VALUE), -7);
        DUE.refusals(game, 2, 0, 0, 2, 1, 2, 2);
    }

    private static void sets() {
        WhatGame game = new WhatGame();
        long v = 0x1234_5678_89AB_CDEFL;
        long[] kept = {(byte) 0xEF, (short) 0xCDEF, 0x89AB_CDEF, v};
        for (int sort = 0; sort < 4; sort++) {
            game.row(sort, sort, 3);
            DUE.is("set", game.set(sort, 2, v), 1);
            DUE.is("lowest bits", game.element(sort, 2), kept[sort]);
            DUE.is("beside", game.element(sort, 1), 0);
            DUE.is("beyond", game.set(sort, 3, 1), -5);
            DUE.is("beyond", game.set(sort, -1, 1), -5);
        }
        Due.rule(game, "put");
        game.show(6, 0);
        DUE.is("no shelf", game.set(8, 99, 1), -1);
        DUE.is("no shelf", game.set(-1, 0, 1), -1);
        DUE.is("a rule", game.set(6, 99, 1), -2);
        DUE.is("nothing", game.set(5, 99, 1), -3);
        DUE.refusals(game, 2, 1, 1, 0, 8, 0, 0);
    }

    private static void copies() {
        WhatGame game = new WhatGame();
        Due.row(game, 0, 1, 1, 2, 3, 4, 5);
        DUE.is("copy on", game.copy(0, 0, 0, 1, 4), 1);
        told("over itself, on", game, 0, 1, 1, 2, 3, 4);
        DUE.is("copy back", game.copy(0, 0, 1, 0, 4), 1);
        told("over itself, back", game, 0, 1, 2, 3, 4, 4);
        Due.row(game, 1, 1, 7, 7, 7);
        DUE.is("copy", game.copy(0, 1, 2, 1, 2), 1);
        told("to another", game, 1, 7, 3, 4);
        told("from as it was", game, 0, 1, 2, 3, 4, 4);
        DUE.is("none at the end", game.copy(0, 1, 5, 3, 0), 1);
        DUE.is("beyond the end", game.copy(0, 1, 6, 0, 0), -5);
        DUE.is("beyond the end", game.copy(0, 1, 0, 4, 0), -5);
        DUE.is("too many to take", game.copy(1, 0, 1, 0, 3), -5);
        DUE.is("too many to hold", game.copy(0, 1, 0, 1, 3), -5);
        DUE.is("below 0", game.copy(0, 1, -1, 0, 1), -5);
        DUE.is("below 0", game.copy(0, 1, 0, -1, 1), -5);
        DUE.is("far", game.copy(0, 1, Integer.MAX_VALUE, 0, Integer.MAX_VALUE), -5);
        DUE.is("far", game.copy(0, 1, 0, Integer.MAX_VALUE, 1), -5);
        Due.row(game, 2, 2, 1);
        Due.rule(game, "put");
        game.show(3, 0);
        DUE.is("no shelf", game.copy(-1, 3, 0, 0, -1), -1);
        DUE.is("no shelf", game.copy(3, 8, 0, 0, -1), -1);
        DUE.is("two sorts", game.copy(0, 2, 0, 0, -1), -2);
        DUE.is("a rule", game.copy(3, 0, 0, 0, -1), -2);
        DUE.is("a rule", game.copy(0, 3, 0, 0, -1), -2);
        DUE.is("a rule and nothing", game.copy(4, 3, 0, 0, -1), -2);
        DUE.is("a rule and nothing", game.copy(3, 4, 0, 0, -1), -2);
        DUE.is("two rules", game.copy(3, 3, 0, 0, 0), -2);
        DUE.is("nothing", game.copy(0, 4, 0, 0, -1), -3);
        DUE.is("nothing", game.copy(4, 0, 0, 0, -1), -3);
        DUE.is("nothing at all", game.copy(4, 4, 0, 0, -1), -3);
        DUE.is("below", game.copy(0, 1, -9, -9, -1), -4);
        DUE.refusals(game, 2, 6, 3, 1, 8, 0, 0);
        told("all as it was", game, 1, 7, 3, 4);
    }

    private static void told(String call, WhatGame game, int s, long... elements) {
        for (int i = 0; i < elements.length; i++) DUE.is(call + " " + i, game.element(s, i), elements[i]);
    }

    private static void elements() {
        WhatGame game = new WhatGame();
        Due.row(game, 0, 3, Long.MIN_VALUE, -1);
        DUE.is("element", game.element(0, 0), Long.MIN_VALUE);
        DUE.is("element", game.element(0, 1), -1);
        Due.rule(game, "put");
        game.show(1, 0);
        DUE.is("none", game.element(0, 2), 0);
        DUE.is("none", game.element(0, -1), 0);
        game.row(3, 0, 60);
        DUE.is("none behind the longest", game.element(3, 60), 0);
        DUE.is("none", game.element(3, Integer.MAX_VALUE), 0);
        DUE.is("a rule", game.element(1, 0), 0);
        DUE.is("nothing", game.element(2, 0), 0);
        DUE.is("no shelf", game.element(8, 0), 0);
        DUE.is("no shelf", game.element(-1, 0), 0);
        DUE.refusals(game, 0, 0, 0, 0, 0, 0, 0);
    }

    private static void shows() {
        WhatGame game = new WhatGame();
        Due.rule(game, "put");
        Due.rule(game, "take");
        DUE.is("a row still", game.holds(7), 100);
        DUE.is("show", game.show(0, 1), 1);
        DUE.is("holds", game.holds(0), 1);
        DUE.is("show over a row", game.show(7, 0), 1);
        DUE.is("holds", game.holds(7), 0);
        DUE.is("nothing", game.show(0, -1), 0);
        DUE.is("holds nothing", game.holds(0), -1);
        DUE.is("no rule", game.show(7, 2), -1);
        DUE.is("no rule", game.show(7, -2), -1);
        DUE.is("no shelf", game.show(8, 0), -1);
        DUE.is("no shelf", game.show(-1, -1), -1);
        DUE.is("as it was", game.holds(7), 0);
        DUE.is("row over a rule", game.row(7, 2, 1), 1);
        DUE.is("holds", game.holds(7), 102);
        DUE.is("no such", game.holds(8), -1);
        DUE.is("no such", game.holds(-1), -1);
        DUE.refusals(game, 4, 0, 0, 0, 0, 0, 0);
    }

    private static void saying() {
        WhatGame game = new WhatGame();
        String[] texts = {"step 1", "jump 2", "put", "take", "must", "end none", "end 3", "end 2;step 0;jump 1;end none"};
        int[] codes = {2, 32, 64, 128, 256, 512, 3072, 2048 + 1 + 16 + 512};
        int[] kinds = {1, 2, 3, 4, 5, 6, 6, 7};
        int[] says = {1, 2, 2, 1, 1, 0, 3, 4};
        for (int i = 0; i < 8; i++) {
            DUE.is("rule", Due.rule(game, texts[i]), i);
            game.show(0, i);
            DUE.is("says RULE", game.says(0, 0), codes[i]);
            for (int kind = 1; kind < 8; kind++) {
                boolean isOf = kind == kinds[i] || kind == 1 && kinds[i] == 2;
                DUE.is(texts[i] + " as " + kind, game.says(0, kind), isOf ? says[i] : -2);
            }
        }
        DUE.is("no shelf", game.says(8, 0), -1);
        DUE.is("no kind", game.says(1, 8), -1);
        DUE.is("no kind", game.says(7, -1), -1);
        DUE.is("a row", game.says(7, 0), -2);
        DUE.is("nothing", game.says(1, 0), -3);
        game = new WhatGame();
        for (int kind = 0; kind < 3; kind++) {
            Due.rule(game, "step " + kind);
            Due.rule(game, "jump " + kind);
            game.show(0, 2 * kind);
            game.show(1, 2 * kind + 1);
            DUE.is("a step's kind", game.says(0, 1), kind);
            DUE.is("a jump's kind", game.says(1, 2), kind);
            DUE.is("a jump's kind, as of a step", game.says(1, 1), kind);
        }
        DUE.refusals(game, 0, 0, 0, 0, 0, 0, 0);
    }
}
