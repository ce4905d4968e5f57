/**
 * The sizes, at both their ends, promise by promise for 25 to 43, and the full sizes of 29 and 31: no GAMES and
 * GAMES that none FITS, NOW empty, full and OVER, the least and the greatest x, PRICE and n, what wraps.
 */
public final class SizesFittingTest {
    private static final Due DUE = new Due("SizesFittingTest");
    private static final int LEAST = Integer.MIN_VALUE;
    private static final int MOST = Integer.MAX_VALUE;

    public static void main(String[] args) {
        withoutGames();
        inOrder();
        overAtOnce();
        theOnlyOne();
        dearLeast();
        tightByNine();
        surely();
        nowEmptyAndFull();
        nowOver();
        cheatPrices();
        mostCheats();
        cheatsGoOn();
        sixOfTwenty();
        lastPart();
        sameness();
        otherThings();
        looks();
        laterPieceWins();
        wraps();
        traces();
        imagesOfNothing();
        imagesAgain();
        counts();
        DUE.end();
    }

    private static int priceOf(int code) {
        int[] prices = {2, 2, 2, 3, 3, 3, 2, 1, 1, 1};
        int price = code >= 1024 ? 2 : 0;
        for (int bit = 0; bit < 10; bit++) price += (code >> bit & 1) * prices[bit];
        return price;
    }

    /** Promises 25 to 28: without GAMES all CODES FIT. */
    private static void withoutGames() {
        WhatGame game = new WhatGame();
        Due.line(game, 0, 0, 1, 2);
        Due.state(game, 1, "ab");
        DUE.is("fits", game.fits(), 4095);
        DUE.is("find", game.find(), 128);
        DUE.is("tight", game.tight(), 128);
        for (int x = 0; x < 10; x++) {
            int due = 0;
            for (int code = 1; code < 4096; code++) due += priceOf(code) <= 1 + x ? 1 : 0;
            DUE.is("rivals by " + x, game.rivals(x), due);
            DUE.is("the first", game.rival(x, 0), 128);
            DUE.is("the second", game.rival(x, 1), 256);
            DUE.is("the third", game.rival(x, 2), 512);
            DUE.is("a last", game.rival(x, due - 1) > 0 ? 1 : 0, 1);
            DUE.is("no more", game.rival(x, due), -5);
        }
    }

    /** Promise 28: in the order of PRICE, of like ones by CODE. */
    private static void inOrder() {
        WhatGame game = new WhatGame();
        int i = 0;
        for (int price = 1; price <= 10; price++) {
            for (int code = 1; code < 4096; code++) {
                if (priceOf(code) != price) continue;
                if (i % 500 == 0) game = new WhatGame();
                DUE.is("rival " + i, game.rival(9, i), code);
                i++;
            }
        }
        DUE.is("no more", game.rival(9, i), -5);
    }

    /** Promises 25 to 34: a GAME that is OVER at once, and another that isn't. */
    private static void overAtOnce() {
        WhatGame game = new WhatGame();
        Due.game(game, "", 1);
        for (int x = 0; x < 10; x++) DUE.is("the first by " + x, game.rival(x, 0), 512);
        // OVER at once with nothing there: end N any way, end none with all that puts nothing.
        DUE.is("fits", game.fits(), 3 * 1024 + 256);
        DUE.is("rivals by 0", game.rivals(0), 1);
        DUE.is("rivals by 1", game.rivals(1), 1 + 2 + 3);
        Due.game(game, "", -1);
        DUE.is("none fits both", game.fits(), 0);
        for (int x = 0; x < 10; x++) {
            DUE.is("none by " + x, game.rivals(x), 0);
            DUE.is("no first by " + x, game.rival(x, 0), -5);
            DUE.is("no ask by " + x, game.ask(x), -1);
            DUE.is("none left by " + x, game.left(x), 0);
        }
    }

    /** Promises 25 to 35: GAMES that one CODE alone FITS; all its PARTS are needed, and none more may be. */
    private static void theOnlyOne() {
        WhatGame game = new WhatGame();
        Due.line(game, 0, 0, 1, 2, 0);
        Due.line(game, 0, 3, 4);
        Due.line(game, 1, 7, 5, 11);
        Due.line(game, 1, 7, 10);
        Due.line(game, 2, 8, 6, 10);
        Due.line(game, 2, 8, 11);
        int code = 1 + 8 + 128 + 256 + 512 + 2048;
        // A jump that is a step too, and takes; by two pieces; to the POINT of the one that was taken.
        Due.game(game, "ab.b.ba", -1, 2, 16 * 3 + 4, 16 * 2 + 1);
        // One piece that has steps: OVER by end 2 alone.
        Due.game(game, "a..b.b", 1);
        // Three pieces that have all but a step 0 and a jump 0: OVER by end none alone.
        Due.game(game, ".....bbaaa", 1);
        DUE.is("fits", game.fits(), 1);
        DUE.is("find", game.find(), code);
        DUE.is("tight", game.tight(), code);
        DUE.is("cheat, too cheap", game.cheat(9, 0) > 0 ? 1 : 0, 1);
        DUE.is("cheat", game.cheat(10, 0), 0);
        DUE.is("cheat", game.cheat(25, 1), code);
        Due.state(game, 0, "a.....a");
        for (int x = 0; x < 10; x++) {
            DUE.is("one by " + x, game.rivals(x), 1);
            DUE.is("it", game.rival(x, 0), code);
            DUE.is("no second", game.rival(x, 1), -5);
            DUE.is("by all", game.sure(1, x), 1);
            DUE.is("by none", game.sure(240, x), 0);
            DUE.is("none by some alone", game.ask(x), -1);
            DUE.is("none left", game.left(x), 0);
        }
    }

    /** Promises 25 to 28: LEAST of PRICE 17: by 9 there is no CODE of a PRICE as high as that. */
    private static void dearLeast() {
        WhatGame game = new WhatGame();
        Due.line(game, 0, 0, 1);
        Due.line(game, 1, 1, 2);
        Due.line(game, 2, 2, 3);
        Due.line(game, 0, 3, 4, 5);
        Due.line(game, 1, 5, 6, 7);
        Due.line(game, 2, 7, 8, 9);
        Due.game(game, "a", -1, 1, 244, 18, 246, 35, 248, 16 * 3 + 5, 251, 16 * 5 + 7, 250, 16 * 7 + 9);
        int[] due = {127, 127 + 128, 127 + 256, 127 + 512, 127 + 384, 127 + 640, 127 + 768, 1023};
        int[] counts = {1, 4, 7, 8, 8, 8, 8, 8, 8, 8};
        DUE.is("find", game.find(), 127);
        DUE.is("price", game.price(127), 17);
        DUE.is("fits", game.fits(), 8);
        for (int x = 0; x < 10; x++) {
            DUE.is("rivals by " + x, game.rivals(x), counts[x]);
            for (int i = 0; i < counts[x]; i++) DUE.is("rival by " + x, game.rival(x, i), due[i]);
            DUE.is("no more by " + x, game.rival(x, counts[x]), -5);
        }
        DUE.is("cheat for less", game.cheat(16, 0), 1);
        DUE.is("cheat for as much", game.cheat(17, 0), 0);
        DUE.is("cheat for as much", game.cheat(17, 1), 127);
    }

    /** Promise 30: TIGHT is of RIVALS by 9; what is tighter for 10 more is not asked. */
    private static void tightByNine() {
        WhatGame game = new WhatGame();
        Due.line(game, 0, 0, 2);
        Due.line(game, 1, 0, 1, 2);
        Due.line(game, 0, 3, 5);
        Due.line(game, 2, 3, 4, 5);
        Due.line(game, 0, 6, 7, 8, 6);
        Due.line(game, 0, 10, 11);
        // Each of the first three is a step 0 and a jump by a KIND of its own; the last is a step 0 alone.
        Due.game(game, "ab........a", -1, 2);
        Due.game(game, "...ab.....a", -1, 16 * 3 + 5);
        Due.game(game, "......ab..a", -1, 16 * 6 + 8);
        Due.game(game, "..........a", -1, 16 * 10 + 11);
        int all = 1 + 8 + 16 + 32 + 256;
        DUE.is("find", game.find(), 1);
        DUE.is("wide", game.wide(1), 2 + 2 + 2 + 1);
        for (int i = 0; i < 4; i++) DUE.is("all three with must fit", game.judge(i, all), -1);
        DUE.is("for 10 more", game.price(all) - game.price(1), 10);
        DUE.is("wide", game.wide(all), 4);
        DUE.is("tight", game.tight(), 1 + 8 + 16 + 256);
        DUE.is("wide", game.wide(1 + 8 + 16 + 256), 1 + 2 + 1 + 1);
    }

    /** Promise 32: by all, none, some; x 0 to 9; every number that is a MOVE. */
    private static void surely() {
        WhatGame game = new WhatGame();
        Due.game(game, "", -1, 240);
        for (int x = 0; x < 10; x++) {
            DUE.is("by all", game.sure(251, x), 1);
            DUE.is("by none", game.sure(1, x), 0);
            DUE.is("by none, the last", game.sure(16 * 11 + 10, x), 0);
        }
        Due.line(game, 0, 11, 10);
        game.point(11, 1);
        DUE.is("put to a piece", game.sure(251, 1), 0);
        DUE.is("a step that none of these has", game.sure(186, 1), 0);
        for (int x = 2; x < 10; x++) DUE.is("a step that some have", game.sure(186, x), 2);
        game.turn(1);
        for (int x = 0; x < 10; x++) DUE.is("the other side's piece", game.sure(186, x), 0);
        DUE.refusals(game, 0, 0, 0, 0, 0, 0, 0);
    }

    /** Promises 32 to 34: NOW empty and full. By 1: 128, 256, and 1, 2, 4, 64, 384, 1024. */
    private static void nowEmptyAndFull() {
        WhatGame game = new WhatGame();
        Due.game(game, "ab", -1);
        DUE.is("rivals by 0", game.rivals(0), 2);
        DUE.is("rivals by 1", game.rivals(1), 8);
        DUE.is("rivals by 2", game.rivals(2), 22);
        for (int turn = 0; turn < 2; turn++) {
            game.turn(turn);
            DUE.is("no put by 0", game.ask(0), -1);
            DUE.is("no put by 0", game.left(0), 0);
            DUE.is("put by one", game.sure(240, 1), 2);
            DUE.is("the least put", game.ask(1), 240);
            DUE.is("seven don't", game.left(1), 7);
            DUE.is("four do, 18 don't", game.left(2), 18);
            DUE.is("the least put", game.ask(2), 240);
        }
        game.point(0, 1);
        DUE.is("the least put is another", game.ask(2), 241);
        Due.state(game, 0, "abababababa");
        DUE.is("the last put", game.ask(2), 251);
        for (int turn = 0; turn < 2; turn++) {
            Due.state(game, turn, "abababababab");
            for (int x = 0; x < 10; x++) {
                DUE.is("full: none by " + x, game.ask(x), -1);
                DUE.is("full: none left by " + x, game.left(x), 0);
                DUE.is("full: by none", game.sure(251, x), 0);
            }
        }
    }

    /** Promises 32 to 34: NOW OVER by some RIVALS lets nothing by these. */
    private static void nowOver() {
        WhatGame game = new WhatGame();
        Due.game(game, "aaabbb", -1, 251);
        Due.state(game, 0, "aabbb");
        // By 2: 64, 192, 320, 576, 65, 66, 68, 448, 704, 832 and, with end N, 64 and 1024, 2048, 3072.
        DUE.is("rivals", game.rivals(2), 13);
        DUE.is("over by one", game.sure(251, 2), 2);
        DUE.is("ask", game.ask(2), 245);
        DUE.is("left", game.left(2), 12);
        Due.state(game, 0, "abbbb");
        DUE.is("over by two", game.left(2), 11);
        Due.state(game, 0, "bbbbb");
        DUE.is("over by three", game.left(2), 10);
        Due.state(game, 0, "aaa");
        DUE.is("over by none", game.sure(251, 2), 1);
        DUE.is("no ask", game.ask(2), -1);
        game.turn(1);
        DUE.is("the other side's are too few", game.left(2), 10);
    }

    /** Promise 35: a PRICE of 1 to 25. */
    private static void cheatPrices() {
        WhatGame game = new WhatGame();
        for (int price = 1; price <= 25; price++) {
            DUE.is("no games, none faulty", game.cheat(price, 0), 0);
            DUE.is("the least code", game.cheat(price, 1), price == 1 ? 128 : 1);
        }
        Due.line(game, 2, 3, 4);
        Due.game(game, "...a", 0, 52);
        // Step 2 for 2, and end none for one more: the other side is stuck.
        for (int price = 1; price <= 25; price++) {
            DUE.is("faulty by " + price, game.cheat(price, 0), price == 1 ? 1 : price == 2 ? 1 : 0);
            DUE.is("code by " + price, game.cheat(price, 1), price == 1 ? 512 : price == 2 ? 4 : 516);
        }
    }

    /** Promise 35: 6 GAMES of 20 MOVES that no CODE lets, each gone out as it can't: 126. */
    private static void mostCheats() {
        WhatGame game = new WhatGame();
        int[] moves = new int[20];
        for (int k = 0; k < 20; k++) moves[k] = 1;
        for (int i = 0; i < 6; i++) {
            Due.game(game, "", 0, moves);
            DUE.is("faulty", game.cheat(25, 0), 21 * (i + 1));
        }
        DUE.is("the least code", game.cheat(25, 1), 1);
        DUE.is("the least code for 1", game.cheat(1, 1), 128);
        DUE.is("none fits", game.fits(), 0);
        DUE.is("where it fails", game.judge(5, 4095), 0);
    }

    /** Promise 35: GAMES go on behind a FAULTY MOVE; a MOVE that isn't let behind the end counts once. */
    private static void cheatsGoOn() {
        WhatGame game = new WhatGame();
        Due.line(game, 0, 0, 1, 2, 3);
        Due.game(game, "a..b", -1, 1, 48 + 11, 18, 240 + 5);
        // By step 0: far off, and the put; the step between them is let.
        DUE.is("two faulty", game.cheat(2, 0), 2);
        DUE.is("step 0", game.cheat(2, 1), 1);
        // By step 0 and put for 4: the one far off alone.
        DUE.is("one faulty", game.cheat(4, 0), 1);
        DUE.is("step 0 and put", game.cheat(4, 1), 65);
        game = new WhatGame();
        Due.game(game, "", 1, 1, 1, 1, 1);
        // With end none, or end 1, all states are OVER, and it went out so.
        DUE.is("each once", game.cheat(1, 0), 4);
        DUE.is("by end none", game.cheat(1, 1), 512);
        DUE.is("by end none, and what is less", game.cheat(3, 1), 512);
    }

    /** Promises 24, 26 and 29: 6 GAMES of 20 MOVES each. */
    private static void sixOfTwenty() {
        WhatGame game = new WhatGame();
        Due.line(game, 0, 0, 1);
        int[] moves = new int[20];
        for (int k = 0; k < 20; k++) moves[k] = k % 4 == 0 ? 1 : k % 4 == 2 ? 16 : k % 4 == 1 ? 16 * 10 + 11 : 16 * 11 + 10;
        Due.line(game, 0, 10, 11);
        for (int i = 0; i < 6; i++) {
            DUE.is("game", Due.game(game, "a.........b", -1, moves), i);
            DUE.is("wide", game.wide(1), 20 * (i + 1));
            DUE.is("wide with puts", game.wide(1 + 64), (20 + 200) * (i + 1));
            DUE.is("wide of none", game.wide(128), 0);
        }
        DUE.is("moves", game.status(2), 120);
        for (int i = 0; i < 6; i++) DUE.is("judge", game.judge(i, 1), -1);
        DUE.is("find", game.find(), 1);
        DUE.is("over at the end", game.judge(5, 1 + 2048), 0);
    }

    /** Promise 31: the last MOVE of the last GAME; behind it no STATE is SEEN. */
    private static void lastPart() {
        WhatGame game = new WhatGame();
        Due.line(game, 0, 10, 11);
        int[] moves = new int[20];
        for (int k = 0; k < 20; k++) moves[k] = 16 * 5 + 6;
        for (int i = 0; i < 5; i++) Due.game(game, "b", -1, moves);
        moves[19] = 10;
        WhatGame behind = new WhatGame();
        Due.line(behind, 0, 10, 11);
        Due.game(behind, "b", -1, moves);
        moves[19] = 1;
        moves[18] = 10;
        DUE.is("nothing yet", game.part(64, 65), -1);
        Due.game(game, "b", -1, moves);
        DUE.is("ahead of the last move", game.part(64, 65), 519);
        DUE.is("the other way about", game.part(65, 64), 519);
        DUE.is("put and not put, at once", game.part(1, 65), 0);
        DUE.is("like", game.part(65, 65), -1);
        DUE.is("behind the last move", behind.part(64, 65), -1);
    }

    private static final int[][] WAYS = {{0, 1, 2}, {0, 2, 1}, {1, 0, 2}, {1, 2, 0}, {2, 0, 1}, {2, 1, 0}};

    private static int renamed(int code, int way) {
        int named = code & ~63;
        for (int kind = 0; kind < 3; kind++) {
            if ((code >> kind & 1) != 0) named |= 1 << WAYS[way][kind];
            if ((code >> 3 + kind & 1) != 0) named |= 8 << WAYS[way][kind];
        }
        return named;
    }

    private static int firstWay(int code, int other) {
        for (int way = 0; way < 6; way++) if (renamed(code, way) == other) return way;
        return -1;
    }

    /** Promise 36: all steps and jumps with all. */
    private static void sameness() {
        for (int code = 0; code < 64; code++) {
            WhatGame game = new WhatGame();
            for (int other = 0; other < 64; other++) {
                DUE.is("same " + code + " " + other, game.same(code + 64, other + 64), firstWay(code, other));
                if (code > 0 && other > 0) {
                    DUE.is("same " + code + " " + other, game.same(code, other), firstWay(code, other));
                    DUE.is("with all else", game.same(code + 4032, other + 4032), firstWay(code, other));
                }
            }
        }
    }

    /** Promise 36: all else alike. */
    private static void otherThings() {
        WhatGame game = new WhatGame();
        for (int bit = 6; bit < 12; bit++) {
            DUE.is("one more", game.same(9, 9 + (1 << bit)), -1);
            DUE.is("one fewer", game.same(9 + (1 << bit), 9), -1);
            DUE.is("one for another", game.same(9 + (1 << bit), 18 + (1 << 17 - bit)), -1);
            DUE.is("alike", game.same(9 + (1 << bit), 36 + (1 << bit)), 4);
        }
        DUE.is("the least", game.same(1, 1), 0);
        DUE.is("the greatest", game.same(4095, 4095), 0);
    }

    /** Promises 37 and 38: n 0 to 3, also when it is OVER. */
    private static void looks() {
        WhatGame game = new WhatGame();
        Due.line(game, 0, 0, 1, 2, 3, 4, 5);
        int code = 1 + 8 + 128 + 1024;
        int[][] due = {{0, 1, 1, 1}, {0, 0, -1, -1}, {0, 0, 0, 1}, {-1, -1, -1, -1}};
        int[] best = {19, 1, 16 * 3 + 2, -1};
        String[] points = {".ab", "a.b", "a..b", "...a"};
        int[] turns = {0, 0, 1, 1};
        for (int i = 0; i < 4; i++) {
            Due.state(game, turns[i], points[i]);
            for (int n = 0; n < 4; n++) DUE.is(points[i] + " value by " + n, game.value(code, n), due[i][n]);
            for (int n = 1; n < 4; n++) DUE.is(points[i] + " best by " + n, game.best(code, n), best[i]);
        }
        DUE.is("as it was", Due.points(game).equals("...a") ? 1 : 0, 1);
        DUE.is("as it was", game.status(5), 1);
    }

    /** Promises 37 and 38: a MOVE of a later piece is better than those of the first. */
    private static void laterPieceWins() {
        WhatGame game = new WhatGame();
        Due.line(game, 0, 0, 1);
        Due.line(game, 0, 5, 6, 7);
        Due.line(game, 0, 10, 11);
        Due.state(game, 0, "a....ab...a");
        int code = 1 + 8 + 128 + 1024;
        for (int n = 1; n < 4; n++) {
            DUE.is("value by " + n, game.value(code, n), 1);
            DUE.is("best by " + n, game.best(code, n), 87);
        }
        DUE.is("without take all are alike", game.best(code - 128, 1), 1);
        DUE.is("no end", game.best(code - 1024, 3), 1);
        DUE.is("no end", game.value(code - 1024, 3), 0);
        game.tie(6, 7, 0, false);
        DUE.is("no jump any more", game.value(code, 1), 0);
        DUE.is("the first", game.best(code, 1), 1);
    }

    /** Promise 39: ACTS wrap. */
    private static void wraps() {
        WhatGame game = new WhatGame();
        String[] texts = {"put", "jump 2", "step 1", "take", "must", "end 2", "put;take", "end none"};
        for (String text : texts) Due.rule(game, text);
        for (int x : new int[] {MOST, MOST - 1, LEAST, LEAST + 1, MOST / 2, MOST / 2 + 1, LEAST / 2, -1, 0, 1 << 30}) {
            DUE.is("put lets", game.act(0, 1, x), -(x * 2));
            DUE.is("put ends", game.act(0, 2, x), -(x * 2) ^ (x - 2));
            DUE.is("jump goes", game.act(1, 0, x), (x + 2) * 3);
            DUE.is("jump lets", game.act(1, 1, x), (x + 2) * 6 - 3);
            DUE.is("jump ends", game.act(1, 2, x), ((x + 2) * 6 - 3) ^ (x - 1) * 3);
            DUE.is("step goes", game.act(2, 0, x), (x + 2) * 3);
            DUE.is("step lets", game.act(2, 1, x), (x + 2) * 6);
            DUE.is("step ends", game.act(2, 2, x), (x + 2) * 6 ^ x * 3);
            DUE.is("take ends", game.act(3, 2, x), ((x + 3) * 2 ^ (x + 2)) + 3);
            DUE.is("must lets", game.act(4, 1, x), (x + 4) * 2 ^ 9);
            DUE.is("must ends", game.act(4, 2, x), (x + 4) * 2 ^ 9 ^ (x + 3));
            DUE.is("end ends", game.act(5, 2, x), ((x + 5) * 2 ^ (x + 3)) * 2);
            DUE.is("joined goes", game.act(6, 0, x), x - 1);
            DUE.is("joined lets", game.act(6, 1, x), (x - 1) * 2);
            DUE.is("joined ends", game.act(6, 2, x), (x + 2) * 2 ^ (x - 1));
            DUE.is("end none goes", game.act(7, 0, x), x + 7);
        }
    }

    /** Promises 39, 40 and 43: the longest TRACE; none behind it, none of an act() that isn't there, none at first. */
    private static void traces() {
        WhatGame game = new WhatGame();
        DUE.is("none yet", game.status(6), 0);
        for (int i = -1; i < 22; i++) DUE.is("none yet", game.trace(i), -1);
        DUE.is("no rule yet", game.act(0, 0, 1), 0);
        Due.rule(game, "put");
        Due.rule(game, "jump 0");
        game.act(1, 2, 0);
        int[] ran = {12, 31, 11, 30, 20, 10, 30, 20, 10};
        DUE.is("nine ran", game.status(6), 9);
        for (int i = 0; i < 9; i++) DUE.is("body " + i, game.trace(i), ran[i]);
        for (int i = 9; i < 22; i++) DUE.is("no body " + i, game.trace(i), -1);
        game.act(0, 0, 0);
        DUE.is("the latest alone", game.status(6), 1);
        DUE.is("the latest alone", game.trace(0), 10);
        DUE.is("no more of the one ahead", game.trace(1), -1);
        int[][] none = {{-1, 0}, {2, 0}, {8, 1}, {0, -1}, {0, 3}, {LEAST, LEAST}, {MOST, MOST}};
        for (int[] asked : none) {
            game.act(1, 1, 1);
            DUE.is("ran", game.status(6), 5);
            DUE.is("no such", game.act(asked[0], asked[1], 5), 0);
            DUE.is("none ran", game.status(6), 0);
            for (int i = 0; i < 6; i++) DUE.is("no trace", game.trace(i), -1);
        }
        DUE.refusals(game, 0, 0, 0, 0, 0, 0, 0);
    }

    /** Promises 41 and 42: nothing imaged yet; THE IMAGE of a new object. */
    private static void imagesOfNothing() {
        WhatGame game = new WhatGame();
        game.point(0, 1);
        for (int i = 1; i < 3; i++) {
            DUE.is("nothing imaged", game.restore(), -6);
            DUE.is("refused", game.status(16), i);
            DUE.is("as it was", game.status(4), 1);
        }
        game = new WhatGame();
        DUE.is("image", game.image(), 0);
        Due.line(game, 1, 0, 11);
        Due.rule(game, "put");
        game.show(0, 0);
        Due.game(game, "a", -1, 1);
        Due.state(game, 1, "ab");
        DUE.is("restore", game.restore(), 0);
        for (int what = 0; what < 6; what++) DUE.is("status " + what, game.status(what), 0);
        DUE.is("not tied", game.tied(0, 1), 0);
        DUE.is("nothing shown", game.holds(0), -1);
        DUE.is("a row still", game.holds(7), 100);
        DUE.is("its element", game.element(7, 0), 'p');
        DUE.is("no rule", game.ruleOf(0, 0), -5);
        DUE.is("no game", game.gameOf(0, 0), -5);
        DUE.is("all fit again", game.fits(), 4095);
        DUE.is("no act of it", game.act(0, 0, 1), 0);
        DUE.is("numbers from 0 on again", Due.rule(game, "take"), 0);
        DUE.is("numbers from 0 on again", Due.game(game, "b", -1), 0);
        DUE.is("the image itself stays", game.restore(), 0);
        DUE.is("no rule", game.status(0), 0);
        for (int i = 0; i < 8; i++) DUE.is("eight again", Due.rule(game, "must"), i);
        for (int i = 0; i < 6; i++) DUE.is("six again", Due.game(game, "", -1), i);
    }

    /** Promises 41 and 42: THE IMAGE of 8 RULES and 6 GAMES; a later one in its place. */
    private static void imagesAgain() {
        WhatGame game = new WhatGame();
        for (int i = 0; i < 8; i++) Due.rule(game, i == 7 ? "take" : "put");
        for (int i = 0; i < 6; i++) Due.game(game, "", 1 - i % 3, 240 + i);
        Due.state(game, 1, "...........b");
        game.tie(10, 11, 2, true);
        DUE.is("image", game.image(), 6);
        game.show(0, 7);
        game.tie(10, 11, 2, false);
        game.turn(0);
        game.point(11, 0);
        for (int i = 0; i < 2; i++) {
            DUE.is("restore", game.restore(), 6);
            int[] due = {8, 6, 6, 1, 1, 1};
            for (int what = 0; what < 6; what++) DUE.is("status " + what, game.status(what), due[what]);
            DUE.is("the rule of that number", game.says(0, 4), 1);
            DUE.is("no room for a ninth", Due.rule(game, "put"), -7);
            DUE.is("no room for a seventh", Due.game(game, "", -1), -7);
            DUE.is("the last game", game.gameOf(5, 100), 245);
            DUE.is("its out", game.gameOf(5, 1), -1);
        }
        DUE.is("refusals stay", game.status(17), 4);
        game.turn(0);
        DUE.is("another image", game.image(), 6);
        game.turn(1);
        DUE.is("restore that", game.restore(), 6);
        DUE.is("the later one's turn", game.status(5), 0);
    }

    /** Promise 43: how many, at the ends. */
    private static void counts() {
        WhatGame game = new WhatGame();
        for (int kind = 0; kind < 3; kind++) {
            for (int p = 0; p < 12; p++) {
                for (int q = 0; q < p; q++) game.tie(p, q, kind, true);
            }
        }
        DUE.is("all ties", game.status(3), 198);
        for (int p = 0; p < 12; p++) game.point(p, 2);
        DUE.is("all points", game.status(4), 12);
        for (int what = 11; what <= 17; what++) DUE.is("none refused", game.status(what), 0);
        for (int i = 1; i <= 100; i++) game.turn(2);
        DUE.is("a hundred", game.status(16), 100);
        for (int what : new int[] {LEAST, -12, -1, 7, 8, 9, 10, 18, 27, MOST}) DUE.is("no such", game.status(what), -1);
        DUE.is("it counts no refusal", game.status(15), 0);
    }
}
