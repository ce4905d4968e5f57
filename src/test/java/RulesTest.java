/** Promises 9 to 14: tie, tied, rule, fault, ruleOf, price. */
public final class RulesTest {
    private static final Due DUE = new Due("RulesTest");

    public static void main(String[] args) {
        ties();
        texts();
        faults();
        refused();
        sorts();
        prices();
        DUE.end();
    }

    private static void ties() {
        WhatGame game = new WhatGame();
        DUE.is("not tied", game.tie(3, 11, 2, false), 0);
        DUE.is("tie", game.tie(3, 11, 2, true), 1);
        DUE.is("as it was", game.tie(11, 3, 2, true), 0);
        DUE.is("another kind", game.tie(11, 3, 0, true), 1);
        DUE.is("tied", game.tied(3, 2), 1 << 11);
        DUE.is("both ways", game.tied(11, 2), 1 << 3);
        DUE.is("another kind", game.tied(3, 1), 0);
        game.tie(3, 0, 2, true);
        DUE.is("two", game.tied(3, 2), 1 << 11 | 1);
        DUE.is("ties", game.status(3), 3);
        DUE.is("untie", game.tie(11, 3, 2, false), 1);
        DUE.is("tied", game.tied(3, 2), 1);
        DUE.is("tied", game.tied(11, 2), 0);
        DUE.is("the other kind still", game.tied(11, 0), 1 << 3);
        DUE.is("ties", game.status(3), 2);
        DUE.is("no point", game.tie(12, 12, 0, true), -1);
        DUE.is("no point", game.tie(0, -1, 0, true), -1);
        DUE.is("no kind", game.tie(1, 1, 3, true), -1);
        DUE.is("no kind", game.tie(0, 1, -1, true), -1);
        DUE.is("one", game.tie(5, 5, 0, true), -6);
        DUE.is("one", game.tie(5, 5, 0, false), -6);
        DUE.is("no point", game.tied(12, 0), -1);
        DUE.is("no point", game.tied(-1, 0), -1);
        DUE.is("no kind", game.tied(0, 3), -1);
        DUE.is("no kind", game.tied(0, -1), -1);
        DUE.refusals(game, 8, 0, 0, 0, 0, 2, 0);
        DUE.is("ties", game.status(3), 2);
    }

    private static void texts() {
        String[] texts = {"step 0", "step 1", "step 2", "jump 0", "jump 1", "jump 2", "put", "take", "must",
            "end none", "end 1", "end 2", "end 3", "end none;end 3", "end 1;end none", "put;step 2;step 0",
            "step 0;step 1;step 2;jump 0;jump 1;jump 2;put;take;must"};
        int[] codes = {1, 2, 4, 8, 16, 32, 64, 128, 256, 512, 1024, 2048, 3072, 3584, 1536, 69, 511};
        int[] kinds = {1, 1, 1, 2, 2, 2, 3, 4, 5, 6, 6, 6, 6, 7, 7, 7, 7};
        int[] prices = {2, 2, 2, 3, 3, 3, 2, 1, 1, 1, 2, 2, 2, 3, 3, 6, 19};
        for (int i = 0; i < texts.length; i++) {
            WhatGame game = new WhatGame();
            DUE.is(texts[i], Due.rule(game, texts[i]), 0);
            DUE.is(texts[i] + " fault", game.fault(), -1);
            DUE.is(texts[i] + " code", game.ruleOf(0, 0), codes[i]);
            DUE.is(texts[i] + " kind", game.ruleOf(0, 1), kinds[i]);
            DUE.is(texts[i] + " price", game.ruleOf(0, 2), prices[i]);
            DUE.is(texts[i] + " is one", Due.rule(game, texts[i]), 1);
            DUE.is("rules", game.status(0), 2);
        }
    }

    private static void faults() {
        fault("", 0);
        fault("s", 1);
        fault("step", 4);
        fault("step ", 5);
        fault("step 3", 5);
        fault("step 01", 6);
        fault("step 0 ", 6);
        fault("step0", 4);
        fault("Step 0", 0);
        fault(" step 0", 0);
        fault(";", 0);
        fault("step 0;", 7);
        fault("step 0;;", 7);
        fault("step 0; put", 7);
        fault("stop 0", 2);
        fault("jump", 4);
        fault("jump  1", 5);
        fault("jump -1", 5);
        fault("jumps", 4);
        fault("jup", 2);
        fault("pu", 2);
        fault("puts", 3);
        fault("put.", 3);
        fault("put take", 3);
        fault("take.must", 4);
        fault("tike", 1);
        fault("mast", 1);
        fault("mus", 3);
        fault("end", 3);
        fault("end ", 4);
        fault("end 0", 4);
        fault("end 4", 4);
        fault("end n", 5);
        fault("end non", 7);
        fault("end nope", 6);
        fault("end nones", 8);
        fault("end 1n", 5);
        fault("end.1", 3);
        fault("put;put", 6);
        fault("put;putx", 6);
        fault("put;pu", 6);
        fault("put;pux", 6);
        fault("step 0;step 1;step 0", 19);
        fault("jump 2;step 2;jump 2;x", 19);
        fault("step 2;jump 2;take;step 2", 24);
        fault("end none;end none", 16);
        fault("end 1;end 2", 10);
        fault("end 1;end 1", 10);
        fault("end 3;put;end 1", 14);
        fault("end 2;end none;end 3", 19);
        fault("must;take;must", 13);
        fault("take;take", 8);
    }

    private static void fault(String text, int place) {
        WhatGame game = new WhatGame();
        Due.rule(game, "must");
        DUE.is("'" + text + "'", Due.rule(game, text), -6);
        DUE.is("'" + text + "' fault", game.fault(), place);
        DUE.is("no new rule", game.status(0), 1);
        DUE.is("refused", game.status(16), 1);
    }

    private static void refused() {
        WhatGame game = new WhatGame();
        DUE.is("none yet", game.fault(), -1);
        for (int i = 0; i < 8; i++) DUE.is("rule", Due.rule(game, "put"), i);
        DUE.is("fault ahead of room", Due.rule(game, "pet"), -6);
        DUE.is("fault", game.fault(), 1);
        DUE.is("room", Due.rule(game, "put"), -7);
        DUE.is("it was a rule", game.fault(), -1);
        Due.rule(game, "putt");
        game.show(0, 0);
        DUE.is("no shelf", game.rule(8), -1);
        DUE.is("no shelf", game.rule(-1), -1);
        DUE.is("a rule", game.rule(0), -2);
        DUE.is("nothing", game.rule(1), -3);
        DUE.is("the fault stays", game.fault(), 3);
        DUE.is("no rule", game.ruleOf(8, 0), -5);
        DUE.is("no rule", game.ruleOf(-1, 0), -5);
        DUE.is("no what", game.ruleOf(0, 3), -5);
        DUE.is("no what", game.ruleOf(0, -1), -5);
        DUE.refusals(game, 2, 1, 1, 0, 4, 2, 1);
    }

    private static void sorts() {
        for (int sort = 1; sort < 4; sort++) {
            WhatGame game = new WhatGame();
            Due.row(game, 2, sort, 'p', 'u', 't');
            DUE.is("of sort " + sort, game.rule(2), 0);
            game.set(2, 1, 'u' + 256);
            DUE.is("no letter", game.rule(2), -6);
            DUE.is("its place", game.fault(), 1);
        }
        WhatGame game = new WhatGame();
        Due.row(game, 2, 3, 'p' + (5L << 32), 'u' | Long.MIN_VALUE, 't');
        DUE.is("the lowest 32 bits", game.rule(2), 0);
        Due.row(game, 2, 0, 'p' + 256, 'u' - 256, 't');
        DUE.is("the lowest 8 bits", game.rule(2), 1);
        Due.row(game, 2, 0, -1);
        DUE.is("below 0", game.rule(2), -6);
        DUE.is("its place", game.fault(), 0);
    }

    private static void prices() {
        WhatGame game = new WhatGame();
        int[] prices = {2, 2, 2, 3, 3, 3, 2, 1, 1, 1, 2, 2};
        for (int bit = 0; bit < 12; bit++) DUE.is("price " + bit, game.price(1 << bit), prices[bit]);
        DUE.is("end 3", game.price(3072), 2);
        DUE.is("all", game.price(4095), 22);
        DUE.is("two", game.price(1 + 512), 3);
        DUE.is("no code", game.price(0), -1);
        DUE.is("no code", game.price(4096), -1);
        DUE.is("no code", game.price(-1), -1);
        DUE.refusals(game, 3, 0, 0, 0, 0, 0, 0);
    }
}
