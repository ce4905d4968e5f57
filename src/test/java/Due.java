/** What the tests share: counting wrong answers, and the calls that are made again and again. */
final class Due {
    private final String test;
    private int calls = 0;
    private int wrong = 0;

    Due(String test) {
        this.test = test;
    }

    void is(String call, long got, long due) {
        calls++;
        if (got != due) {
            wrong++;
            System.out.println(test + ": " + call + " answered " + got + ", due is " + due);
        }
    }

    /** Ends the test: exit code 1 if an answer was wrong. */
    void end() {
        System.out.println(test + ": " + calls + " answers, " + wrong + " wrong");
        if (wrong != 0) System.exit(1);
    }

    /** A ROW in a SHELF with these elements. */
    static void row(WhatGame game, int s, int sort, long... elements) {
        game.row(s, sort, elements.length);
        for (int i = 0; i < elements.length; i++) game.set(s, i, elements[i]);
    }

    /** A ROW of bytes in SHELF 7 with a text, read as a RULE. */
    static int rule(WhatGame game, String text) {
        row(game, 7, 0, text.chars().asLongStream().toArray());
        return game.rule(7);
    }

    /** TIES by a KIND: points tied to the next, one by one. */
    static void line(WhatGame game, int kind, int... points) {
        for (int i = 1; i < points.length; i++) game.tie(points[i - 1], points[i], kind, true);
    }

    /** What stands on the POINTS of NOW, from 0 on, as letters: . nothing, a side 0, b side 1. */
    static void state(WhatGame game, int turn, String points) {
        for (int p = 0; p < 12; p++) game.point(p, p < points.length() ? ".ab".indexOf(points.charAt(p)) : 0);
        game.turn(turn);
    }

    /** The same way back: what stands on the POINTS of NOW. */
    static String points(WhatGame game) {
        StringBuilder told = new StringBuilder();
        for (int p = 0; p < 12; p++) {
            int v = game.point(p, 0);
            game.point(p, v);
            told.append(".ab".charAt(v));
        }
        return told.toString().replaceAll("\\.+$", "");
    }

    /** A GAME written down through SHELVES 5 and 6. */
    static int game(WhatGame game, String start, int out, int... moves) {
        game.row(5, 0, 12);
        for (int p = 0; p < start.length(); p++) game.set(5, p, ".ab".indexOf(start.charAt(p)));
        game.row(6, 2, moves.length);
        for (int k = 0; k < moves.length; k++) game.set(6, k, moves[k]);
        return game.game(5, 6, moves.length, out);
    }

    /** Checks how many of each REFUSAL there were, from -1 to -7. */
    void refusals(WhatGame game, int... counts) {
        for (int i = 0; i < counts.length; i++) is("status(" + (11 + i) + ")", game.status(11 + i), counts[i]);
    }
}
