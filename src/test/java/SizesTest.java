import java.util.Arrays;

/**
 * The sizes, at both their ends, promise by promise for 1 to 24: the least and the greatest that may be, empty and
 * full, what wraps, what keeps its lowest bits. What lies beyond an end is told in RefusedTest.
 */
public final class SizesTest {
    private static final Due DUE = new Due("SizesTest");
    private static final int LEAST = Integer.MIN_VALUE;
    private static final int MOST = Integer.MAX_VALUE;
    private static final String[] WORDS = {"step 0", "step 1", "step 2", "jump 0", "jump 1", "jump 2",
        "put", "take", "must", "end none", "end 1", "end 2", "end 3"};
    private static final int[] CODES = {1, 2, 4, 8, 16, 32, 64, 128, 256, 512, 1024, 2048, 3072};
    private static final int[] PRICES = {2, 2, 2, 3, 3, 3, 2, 1, 1, 1, 2, 2, 2};

    public static void main(String[] args) {
        rows();
        lowestBits();
        copies();
        shownAndSaid();
        ties();
        letters();
        pairs();
        longTexts();
        eightRules();
        prices();
        nowEmpty();
        nowFull();
        pointsAndTurn();
        played();
        sixGames();
        starts();
        moves();
        loads();
        judged();
        DUE.end();
    }

    /** Promises 2 and 5: SHELVES 0 to 7, 0 to 60 elements, all 0 at first. */
    private static void rows() {
        WhatGame game = new WhatGame();
        for (int s = 0; s < 8; s++) {
            DUE.is("nothing at first", game.holds(s), -1);
            DUE.is("a row", game.row(s, s % 4, 60), 1);
            DUE.is("holds", game.holds(s), 100 + s % 4);
            DUE.is("the first", game.element(s, 0), 0);
            DUE.is("the last", game.element(s, 59), 0);
            DUE.is("set the last", game.set(s, 59, 7), 1);
            DUE.is("set the first", game.set(s, 0, 9), 1);
            DUE.is("the last", game.element(s, 59), 7);
            DUE.is("the first", game.element(s, 0), 9);
            DUE.is("a row of one", game.row(s, s % 4, 1), 1);
            DUE.is("0 anew", game.element(s, 0), 0);
            DUE.is("no longer there", game.element(s, 59), 0);
            DUE.is("only that one", game.set(s, 1, 1), -5);
            DUE.is("a row of none", game.row(s, 3 - s % 4, 0), 1);
            DUE.is("of another sort", game.holds(s), 103 - s % 4);
            DUE.is("none in it", game.set(s, 0, 1), -5);
            DUE.is("60 again", game.row(s, 0, 60), 1);
            for (int i = 0; i < 60; i += 59) DUE.is("0 again", game.element(s, i), 0);
        }
    }

    /** Promise 3: what is put into a ROW keeps its lowest bits. */
    private static void lowestBits() {
        long[] put = {127, 128, 255, 256, -128, -129, 32767, 32768, 65535, 65536, -32769, MOST, MOST + 1L,
            0xFFFF_FFFFL, 1L << 32, LEAST - 1L, Long.MAX_VALUE, Long.MIN_VALUE, -1};
        long[] bytes = {127, -128, -1, 0, -128, 127, -1, 0, -1, 0, -1, -1, 0, -1, 0, -1, -1, 0, -1};
        long[] shorts = {127, 128, 255, 256, -128, -129, 32767, -32768, -1, 0, 32767, -1, 0, -1, 0, -1, -1, 0, -1};
        long[] ints = {127, 128, 255, 256, -128, -129, 32767, 32768, 65535, 65536, -32769, MOST, LEAST, -1, 0, MOST, -1, 0, -1};
        long[][] kept = {bytes, shorts, ints, put};
        for (int sort = 0; sort < 4; sort++) {
            WhatGame game = new WhatGame();
            game.row(0, sort, put.length);
            for (int i = 0; i < put.length; i++) {
                DUE.is("set", game.set(0, i, put[i]), 1);
                DUE.is("sort " + sort + " keeps of " + put[i], game.element(0, i), kept[sort][i]);
            }
        }
    }

    /** Promise 4: none, all 60, over itself; the ends that just fit. */
    private static void copies() {
        WhatGame game = new WhatGame();
        for (int s = 0; s < 2; s++) {
            game.row(s, 1, 60);
            for (int i = 0; i < 60; i++) game.set(s, i, 100 * s + i);
        }
        DUE.is("all on themselves", game.copy(0, 0, 0, 0, 60), 1);
        DUE.is("as it was", game.element(0, 59), 59);
        DUE.is("none, at the ends", game.copy(0, 0, 60, 60, 0), 1);
        DUE.is("none, behind the end", game.copy(0, 0, 61, 0, 0), -5);
        DUE.is("none, to behind the end", game.copy(0, 0, 0, 61, 0), -5);
        DUE.is("all to another", game.copy(0, 1, 0, 0, 60), 1);
        for (int i = 0; i < 60; i++) DUE.is("copied", game.element(1, i), i);
        DUE.is("61", game.copy(0, 1, 0, 0, 61), -5);
        DUE.is("the last", game.copy(0, 1, 59, 0, 1), 1);
        DUE.is("it", game.element(1, 0), 59);
        DUE.is("to the last", game.copy(0, 1, 0, 59, 1), 1);
        DUE.is("it", game.element(1, 59), 0);
        DUE.is("on by one, as they were ahead", game.copy(0, 0, 0, 1, 59), 1);
        for (int i = 0; i < 60; i++) DUE.is("on by one", game.element(0, i), Math.max(0, i - 1));
        DUE.is("back by two, as they were ahead", game.copy(0, 0, 2, 0, 58), 1);
        for (int i = 0; i < 60; i++) DUE.is("back by two", game.element(0, i), i < 58 ? i + 1 : i - 1);
        game.row(2, 3, 0);
        game.row(7, 3, 1);
        DUE.is("none to a row of none", game.copy(2, 2, 0, 0, 0), 1);
        DUE.is("one to a row of none", game.copy(7, 2, 0, 0, 1), -5);
        DUE.is("one of a row of none", game.copy(2, 7, 0, 0, 1), -5);
    }

    /** Promises 6 to 8: the first and the last RULE, in the first and the last SHELF. */
    private static void shownAndSaid() {
        WhatGame game = new WhatGame();
        int[] words = {2, 5, 6, 7, 8, 12, 9};
        for (int i = 0; i < 7; i++) Due.rule(game, WORDS[words[i]]);
        DUE.is("the eighth", Due.rule(game, "end 3;end none;put"), 7);
        for (int s = 0; s < 8; s += 7) {
            for (int rule = 0; rule < 8; rule++) {
                DUE.is("show", game.show(s, rule), 1);
                DUE.is("holds", game.holds(s), rule);
                DUE.is("its code", game.says(s, 0), game.ruleOf(rule, 0));
                DUE.is("no elements", game.element(s, 0), 0);
            }
            DUE.is("end 3 is one part of three", game.says(s, 7), 3);
            game.show(s, 5);
            DUE.is("end 3", game.says(s, 6), 3);
            DUE.is("a part alone isn't joined", game.says(s, 7), -2);
            game.show(s, 6);
            DUE.is("end none", game.says(s, 6), 0);
            game.show(s, 1);
            DUE.is("a jump, taken for a step", game.says(s, 1), 2);
            game.show(s, 0);
            DUE.is("a step, taken for a jump", game.says(s, 2), -2);
            DUE.is("nothing", game.show(s, -1), 0);
            DUE.is("nothing again", game.show(s, -1), 0);
            DUE.is("holds nothing", game.holds(s), -1);
        }
        DUE.is("a row over a rule", game.row(7, 2, 1), 1);
        DUE.is("a rule over a row", game.show(7, 7), 1);
        DUE.is("holds", game.holds(7), 7);
    }

    /** Promises 9 and 10: all POINTS with all others, by each KIND; a TIE counts once of each KIND. */
    private static void ties() {
        for (int kind = 0; kind < 3; kind++) {
            WhatGame game = new WhatGame();
            for (int p = 0; p < 12; p++) {
                for (int q = 0; q < p; q++) DUE.is("tie", game.tie(p, q, kind, true), 1);
            }
            DUE.is("all of a kind", game.status(3), 66);
            for (int p = 0; p < 12; p++) {
                DUE.is("tied to all others", game.tied(p, kind), 4095 - (1 << p));
                DUE.is("not by another", game.tied(p, (kind + 1) % 3), 0);
                DUE.is("not by another", game.tied(p, (kind + 2) % 3), 0);
            }
            DUE.is("there already, the other way", game.tie(0, 11, kind, true), 0);
            DUE.is("by another kind too", game.tie(11, 0, (kind + 1) % 3, true), 1);
            DUE.is("counts once more", game.status(3), 67);
            DUE.is("off, the other way", game.tie(0, 11, kind, false), 1);
            DUE.is("off already", game.tie(11, 0, kind, false), 0);
            DUE.is("still by another", game.tied(11, (kind + 1) % 3), 1);
            DUE.is("counts once less", game.status(3), 66);
            DUE.is("off", game.tied(0, kind), 2046);
        }
    }

    /** Promises 11 and 12: behind every beginning of a PART, every letter. */
    private static void letters() {
        for (int w = 0; w < WORDS.length; w++) {
            for (int length = 0; length <= WORDS[w].length(); length++) behind(WORDS[w].substring(0, length), "");
            behind("", WORDS[w] + ";");
        }
        behind("st", "put;");
        behind("end ", "put;");
        behind("put", "take;must;");
    }

    /** All letters behind the beginning of a PART that comes behind whole ones. */
    private static void behind(String begun, String whole) {
        for (int low = -128; low < 128; low += 64) {
            WhatGame game = new WhatGame();
            String text = whole + begun;
            Due.row(game, 0, 0, (text + "?").chars().asLongStream().toArray());
            for (int letter = low; letter < low + 64; letter++) {
                game.set(0, text.length(), letter);
                int got = game.rule(0);
                String tail = letter < 0 ? "?" : begun + (char) letter;
                boolean isWhole = Arrays.asList(WORDS).contains(tail) && !whole.contains(tail);
                boolean goesOn = Arrays.stream(WORDS).anyMatch(word -> word.startsWith(tail) && !word.equals(tail))
                    || Arrays.asList(WORDS).contains(begun) && letter == ';';
                int fault = isWhole ? -1 : text.length() + (goesOn ? 1 : 0);
                DUE.is("'" + text + "' and " + letter, got < 0 ? got : 0, isWhole ? 0 : -6);
                DUE.is("'" + text + "' and " + letter + ": fault", game.fault(), fault);
            }
        }
    }

    /** Promises 11 to 14: any two PARTS, in both orders; none twice, end N not with two N. */
    private static void pairs() {
        for (int a = 0; a < 13; a++) {
            for (int b = 0; b < 13; b++) {
                WhatGame game = new WhatGame();
                String text = WORDS[a] + ";" + WORDS[b];
                int got = Due.rule(game, text);
                if (a == b || a >= 10 && b >= 10) {
                    DUE.is(text, got, -6);
                    DUE.is(text + ": its last letter, or digit", game.fault(), text.length() - 1);
                    continue;
                }
                DUE.is(text, got, 0);
                DUE.is(text + ": no fault", game.fault(), -1);
                DUE.is(text + ": code", game.ruleOf(0, 0), CODES[a] | CODES[b]);
                DUE.is(text + ": joined", game.ruleOf(0, 1), 7);
                DUE.is(text + ": price", game.ruleOf(0, 2), PRICES[a] + PRICES[b]);
                game.show(0, 0);
                DUE.is(text + ": parts", game.says(0, 7), 2);
                DUE.is(text + ": as a rule", game.says(0, 0), CODES[a] | CODES[b]);
                for (int kind = 1; kind < 7; kind++) DUE.is(text + " as " + kind, game.says(0, kind), -2);
            }
        }
    }

    /** Promises 11 and 12: a text of all 60 elements, and FAULTS at its last, and behind it. */
    private static void longTexts() {
        WhatGame game = new WhatGame();
        String text = "step 0;step 1;step 2;jump 0;jump 1;jump 2;put;end none;end 1";
        DUE.is("a rule of 60 letters", Due.rule(game, text), 0);
        DUE.is("its code", game.ruleOf(0, 0), 63 + 64 + 512 + 1024);
        DUE.is("its price", game.ruleOf(0, 2), 6 + 9 + 2 + 1 + 2);
        game.show(0, 0);
        DUE.is("its parts", game.says(0, 7), 9);
        game.set(7, 59, '4');
        DUE.is("a fault in the last", game.rule(7), -6);
        DUE.is("59", game.fault(), 59);
        Due.rule(game, text.substring(0, 57) + ";en");
        DUE.is("a blank that isn't there", game.fault(), 57);
        DUE.is("ends too early", Due.rule(game, "step 0;step 1;step 2;jump 0;jump 1;jump 2;put;must;end none;"), -6);
        DUE.is("60", game.fault(), 60);
        DUE.is("ends too early in a part", Due.rule(game, "step 0;step 1;step 2;jump 0;jump 1;jump 2;put;take;must;end "), -6);
        DUE.is("60", game.fault(), 60);
        DUE.is("there already", Due.rule(game, "end 1;step 0;step 1;step 2;jump 0;jump 1;jump 2;put;end 2;x"), -6);
        DUE.is("its digit", game.fault(), 56);
        game.row(7, 0, 0);
        DUE.is("no letters", game.rule(7), -6);
        DUE.is("0", game.fault(), 0);
        game.row(7, 0, 60);
        DUE.is("60 times 0", game.rule(7), -6);
        DUE.is("0", game.fault(), 0);
    }

    /** Promises 11 and 13: RULES have numbers from 0 on, 8 at most; like ones have numbers of their own. */
    private static void eightRules() {
        WhatGame game = new WhatGame();
        for (int i = 0; i < 8; i++) {
            DUE.is("rules", game.status(0), i);
            DUE.is("not yet", game.ruleOf(i, 0), -5);
            DUE.is("rule", Due.rule(game, i == 7 ? "take" : "put"), i);
            DUE.is("code", game.ruleOf(i, 0), i == 7 ? 128 : 64);
            DUE.is("kind", game.ruleOf(i, 1), i == 7 ? 4 : 3);
            DUE.is("price", game.ruleOf(i, 2), i == 7 ? 1 : 2);
        }
        for (int i = 0; i < 2; i++) DUE.is("the ninth", Due.rule(game, "must"), -7);
        DUE.is("eight", game.status(0), 8);
        DUE.is("refused", game.status(17), 2);
        DUE.is("the eighth still", game.ruleOf(7, 0), 128);
    }

    /** Promise 14: the PRICES of all CODES from 1 to 4,095. */
    private static void prices() {
        WhatGame game = null;
        for (int code = 1; code < 4096; code++) {
            if (code % 400 == 1) game = new WhatGame();
            int price = code >= 1024 ? 2 : 0;
            for (int bit = 0; bit < 10; bit++) price += (code >> bit & 1) * PRICES[bit];
            DUE.is("price of " + code, game.price(code), price);
        }
    }

    /** Promises 17 to 20: NOW empty. */
    private static void nowEmpty() {
        WhatGame game = new WhatGame();
        Due.line(game, 0, 0, 1, 2, 3, 4, 5, 6, 7, 8, 9, 10, 11);
        for (int turn = 0; turn < 2; turn++) {
            game.turn(turn);
            DUE.is("empty: steps", game.moves(1), 0);
            DUE.is("empty: jumps", game.moves(8), 0);
            DUE.is("empty: puts", game.moves(64), 12);
            DUE.is("empty: the first put", game.move(64, 0), 240);
            DUE.is("empty: the last put", game.move(64, 11), 251);
            DUE.is("empty: no more", game.move(64, 12), -5);
            DUE.is("empty: all but ends", game.moves(511), 12);
            DUE.is("empty: stuck", game.over(1 + 512), 1 - turn);
            DUE.is("empty: not stuck", game.over(64 + 512), -1);
            for (int n = 1; n < 4; n++) DUE.is("empty: end " + n, game.over(64 + 1024 * n), 1 - turn);
            DUE.is("empty: over, no move", game.moves(64 + 1024), 0);
            DUE.is("empty: no end", game.over(1), -1);
            DUE.is("empty: pieces", game.status(4), 0);
            DUE.is("empty: best", game.best(1, 1), -1);
            DUE.is("empty: best put", game.best(64, 2), 240);
            DUE.is("empty: value", game.value(1 + 512, 0), -1);
            DUE.is("empty: value, no end", game.value(1, 3), 0);
        }
    }

    /** Promises 17 to 20: NOW full. */
    private static void nowFull() {
        WhatGame game = new WhatGame();
        Due.line(game, 0, 0, 1, 2, 3, 4, 5, 6, 7, 8, 9, 10, 11);
        Due.state(game, 0, "abababababab");
        for (int turn = 0; turn < 2; turn++) {
            game.turn(turn);
            DUE.is("full: all but ends", game.moves(511), 0);
            DUE.is("full: none", game.move(511, 0), -5);
            DUE.is("full: stuck", game.over(511 + 512), 1 - turn);
            DUE.is("full: six are enough", game.over(511 + 3072), -1);
            DUE.is("full: pieces", game.status(4), 12);
            DUE.is("full: no put", game.play(64, 240 + turn), -6);
            DUE.is("full: best", game.best(511, 3), -1);
            DUE.is("full: value", game.value(511, 3), 0);
            DUE.is("full: value, stuck", game.value(511 + 512, 3), -1);
        }
        game.point(11, 0);
        game.turn(1);
        DUE.is("one empty: put", game.move(64, 0), 251);
        DUE.is("one empty: no more", game.move(64, 1), -5);
        DUE.is("one empty: step", game.moves(1), 0);
        DUE.is("one empty: jump", game.move(8, 0), 16 * 9 + 11);
        DUE.is("the last put", game.play(64, 251), 12);
        DUE.is("it is there", game.point(11, 2), 2);
    }

    /** Promises 15 and 16: each POINT, each piece, each TURN. */
    private static void pointsAndTurn() {
        WhatGame game = new WhatGame();
        for (int p = 0; p < 12; p++) {
            int[] put = {0, 1, 1, 2, 2, 0, 2, 1, 0};
            int was = 0;
            for (int v : put) {
                DUE.is("point " + p, game.point(p, v), was);
                DUE.is("pieces", game.status(4), p + (v == 0 ? 0 : 1));
                was = v;
            }
            game.point(p, 1 + p % 2);
        }
        for (int p = 0; p < 12; p++) DUE.is("point " + p, game.point(p, 0), 1 + p % 2);
        int[] turns = {0, 1, 1, 0, 0};
        int was = 0;
        for (int v : turns) {
            DUE.is("turn", game.turn(v), was);
            DUE.is("turn", game.status(5), v);
            was = v;
        }
        DUE.is("points are as they were", game.status(4), 0);
    }

    /** Promise 20: MOVES from and to the first and the last POINTS; the piece jumped over may be on the first. */
    private static void played() {
        for (int p = 0; p < 12; p++) {
            int over = (p + 7) % 12;
            int to = (p + 2) % 12;
            for (int turn = 0; turn < 2; turn++) {
                WhatGame game = new WhatGame();
                Due.line(game, 1, p, over, to);
                game.turn(turn);
                game.point(p, 1 + turn);
                DUE.is("step", game.play(2, 16 * p + over), 1);
                DUE.is("gone", game.point(p, 0), 0);
                DUE.is("there", game.point(over, 2 - turn), 1 + turn);
                game.turn(turn);
                game.point(p, 1 + turn);
                DUE.is("jump, not taken", game.play(16, 16 * p + to), 2);
                DUE.is("jumped over still", game.point(over, 2 - turn), 2 - turn);
                DUE.is("there", game.point(to, 0), 1 + turn);
                game.turn(turn);
                game.point(p, 1 + turn);
                DUE.is("jump, taken", game.play(16 + 128, 16 * p + to), 1);
                DUE.is("jumped over no more", game.point(over, 0), 0);
                DUE.is("there", game.point(to, 0), 1 + turn);
                DUE.is("the other's turn", game.status(5), 1 - turn);
                DUE.is("put", game.play(64, 240 + p), 1);
                DUE.is("of the other side", game.point(p, 0), 2 - turn);
                DUE.is("the turn is back", game.status(5), turn);
            }
        }
    }

    /** Promises 21 and 22: GAMES have numbers from 0 on, 6 at most; like ones have numbers of their own. */
    private static void sixGames() {
        WhatGame game = new WhatGame();
        for (int i = 0; i < 6; i++) {
            DUE.is("games", game.status(1), i);
            DUE.is("not yet", game.gameOf(i, 0), -5);
            DUE.is("game", Due.game(game, i == 5 ? "...........b" : "", i % 3 - 1, 240 + i), i);
            DUE.is("moves", game.status(2), i + 1);
            DUE.is("its move", game.gameOf(i, 100), 240 + i);
            DUE.is("its out", game.gameOf(i, 1), i % 3 - 1);
        }
        DUE.is("the last start", game.gameOf(5, 211), 2);
        for (int i = 0; i < 2; i++) DUE.is("the seventh", Due.game(game, "", -1), -7);
        DUE.is("six", game.status(1), 6);
        DUE.is("refused", game.status(17), 2);
    }

    /** Promise 21: a START is the first 12 elements, of any SORT, each 0 to 2; the MOVES are the first n. */
    private static void starts() {
        for (int sort = 0; sort < 4; sort++) {
            WhatGame game = new WhatGame();
            game.row(0, sort, 12);
            game.row(1, 3 - sort, 60);
            for (int i = 0; i < 60; i++) game.set(1, i, i == 2 ? 99 : i % 2 + 1);
            DUE.is("12 elements", game.game(0, 1, 0, -1), 0);
            DUE.is("of 60 the first 12 alone, all of them", game.game(1, 0, 0, 1), -6);
            game.set(1, 2, 2);
            game.set(1, 12, 77);
            DUE.is("of 60 the first 12", game.game(1, 0, 0, 1), 1);
            for (int p = 0; p < 12; p++) DUE.is("start " + p, game.gameOf(1, 200 + p), p == 2 ? 2 : p % 2 + 1);
            for (int p = 0; p < 12; p++) {
                game.set(0, p, 3);
                DUE.is("a 3 on point " + p, game.game(0, 1, 0, -1), -6);
                game.set(0, p, -1);
                DUE.is("a -1 on point " + p, game.game(0, 1, 0, -1), -6);
                game.set(0, p, p % 3);
            }
            DUE.is("0, 1 and 2", game.game(0, 1, 2, 0), 2);
            DUE.is("of no such elements", game.status(16), 25);
            game.row(2, sort, 0);
            DUE.is("no moves, of a row of none", game.game(0, 2, 0, 0), 3);
            DUE.is("one of a row of none", game.game(0, 2, 1, 0), -5);
            DUE.is("how many", game.gameOf(3, 0), 0);
            DUE.is("no first", game.gameOf(3, 100), -5);
        }
    }

    /** Promise 21: which numbers are MOVES that have POINTS; 20 MOVES at most. */
    private static void moves() {
        for (int move = -20; move < 300; move++) {
            int from = Math.floorDiv(move, 16);
            int to = Math.floorMod(move, 16);
            boolean isMove = to < 12 && (from == 15 || from >= 0 && from < 12 && from != to);
            WhatGame game = new WhatGame();
            game.row(0, 0, 12);
            game.row(1, 2, 20);
            for (int k = 0; k < 19; k++) game.set(1, k, 1);
            game.set(1, 19, move);
            DUE.is("19 moves, ahead of " + move, game.game(0, 1, 19, -1), 0);
            DUE.is("move " + move + ", the 20th", game.game(0, 1, 20, -1), isMove ? 1 : -6);
            game.set(1, 0, move);
            DUE.is("move " + move + ", the first", game.game(0, 1, 1, -1), isMove ? 2 : -6);
            DUE.is("sure of " + move, game.sure(move, 0) == -6 ? 1 : 0, isMove || game.fits() == 0 ? 0 : 1);
        }
        WhatGame game = new WhatGame();
        game.row(0, 0, 12);
        game.row(1, 2, 60);
        for (int k = 0; k < 60; k++) game.set(1, k, 240 + k % 12);
        DUE.is("21 moves", game.game(0, 1, 21, -1), -6);
        DUE.is("60 moves", game.game(0, 1, 60, -1), -6);
        DUE.is("61 moves", game.game(0, 1, 61, -1), -5);
        DUE.is("20 moves", game.game(0, 1, 20, -1), 0);
        for (int k = 0; k < 20; k++) DUE.is("move " + k, game.gameOf(0, 100 + k), 240 + k % 12);
        DUE.is("no 21st", game.gameOf(0, 120), -5);
    }

    /** Promise 23: from ahead of the first MOVE to behind the last; a GAME of none. */
    private static void loads() {
        WhatGame game = new WhatGame();
        Due.game(game, "", -1);
        Due.game(game, "..........ba", -1, 240, 241, 242, 243, 244, 245, 246, 247, 248, 249, 240, 240, 240, 240,
            240, 240, 240, 240, 240, 240);
        game.turn(1);
        game.point(5, 1);
        DUE.is("of none, the last state", game.load(0, 0, 1), 0);
        DUE.is("empty", game.status(4), 0);
        DUE.is("of none, no further", game.load(0, 1, 1), -6);
        for (int k = 0; k <= 20; k++) {
            DUE.is("ahead of " + k, game.load(1, k, 64), k % 2);
            DUE.is("turn", game.status(5), k % 2);
            DUE.is("pieces", game.status(4), Math.min(2 + k, 12));
            DUE.is("on point 0", game.point(0, 0), k == 0 ? 0 : k <= 10 ? 1 : k % 2 == 1 ? 1 : 2);
        }
        DUE.is("no further", game.load(1, 21, 64), -6);
    }

    /** Promise 24: at the first MOVE, at the last, at the end. */
    private static void judged() {
        WhatGame game = new WhatGame();
        Due.line(game, 0, 0, 1);
        int[] twenty = new int[20];
        for (int k = 0; k < 20; k++) twenty[k] = 240 + k % 12;
        Due.game(game, "", -1, twenty);
        DUE.is("at the first put to a piece", game.judge(0, 64), 12);
        DUE.is("at the first", game.judge(0, 1), 0);
        Due.game(game, "", -1, Arrays.copyOf(twenty, 12));
        DUE.is("not over when full, no end", game.judge(1, 64), -1);
        DUE.is("over when full", game.judge(1, 64 + 512), 12);
        Due.game(game, "", 1, Arrays.copyOf(twenty, 12));
        DUE.is("over when full, as told", game.judge(2, 64 + 512), -1);
        DUE.is("not over", game.judge(2, 64), 12);
        Due.game(game, "", 0, Arrays.copyOf(twenty, 12));
        DUE.is("over when full, the other has won", game.judge(3, 64 + 512), 12);
        Due.game(game, "", -1, 240, 241, 240);
        DUE.is("at the last", game.judge(4, 64), 2);
        Due.game(game, "", 1);
        DUE.is("of no moves, over at once", game.judge(5, 64 + 1024), -1);
        DUE.is("of no moves, not over", game.judge(5, 64), 0);
    }
}
