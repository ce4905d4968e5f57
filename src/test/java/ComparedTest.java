import java.lang.reflect.Method;
import java.util.ArrayList;
import java.util.Arrays;
import java.util.HashMap;
import java.util.List;
import java.util.Map;
import java.util.Random;

/**
 * Runs of calls by a seed, each made on the program and on PlainGame: all answers must be alike.
 * Arguments: how many runs (40), the first seed (1).
 */
public final class ComparedTest {
    private static final int CALLS = 512;
    private static final String[] WORDS = {"step 0", "step 1", "step 2", "jump 0", "jump 1", "jump 2",
        "put", "take", "must", "end none", "end 1", "end 2", "end 3"};

    private final Random random;
    private final WhatGame program = new WhatGame();
    private final PlainGame plain = new PlainGame();
    private final Map<String, Method> programs = new HashMap<>();
    private final Map<String, Method> plains = new HashMap<>();
    private final List<String> log = new ArrayList<>();
    private int wrong = 0;

    private ComparedTest(long seed) {
        random = new Random(seed);
        for (Method method : WhatGame.class.getDeclaredMethods()) programs.put(method.getName(), method);
        for (Method method : PlainGame.class.getDeclaredMethods()) {
            Method face = programs.get(method.getName());
            if (face != null && Arrays.equals(face.getParameterTypes(), method.getParameterTypes())) {
                plains.put(method.getName(), method);
            }
        }
    }

    public static void main(String[] args) throws Exception {
        int runs = args.length > 0 ? Integer.parseInt(args[0]) : 40;
        long first = args.length > 1 ? Long.parseLong(args[1]) : 1;
        int wrong = 0;
        for (long seed = first; seed < first + runs; seed++) {
            ComparedTest run = new ComparedTest(seed);
            run.all();
            if (run.wrong != 0) System.out.println("seed " + seed + ": " + run.wrong + " wrong");
            wrong += run.wrong;
        }
        System.out.println("ComparedTest: " + runs + " runs, " + wrong + " wrong");
        if (wrong != 0) System.exit(1);
    }

    private long call(String name, Object... args) throws Exception {
        Number got = (Number) programs.get(name).invoke(program, args);
        Number due = (Number) plains.get(name).invoke(plain, args);
        String told = name + Arrays.toString(args) + " -> " + due;
        log.add(told);
        if (got.longValue() != due.longValue()) {
            if (wrong == 0) System.out.println(String.join("\n", log));
            System.out.println("wrong: " + told + ", answered " + got);
            wrong++;
        }
        return due.longValue();
    }

    private void all() throws Exception {
        int points = 3 + random.nextInt(10);
        board(points);
        int code = code();
        for (int i = 0; i < 4 && log.size() < CALLS - 200; i++) {
            if (random.nextInt(3) > 0) writeGame(points, code);
            for (int j = random.nextInt(8); j >= 0; j--) anything(points, code);
        }
        for (int i = random.nextInt(4); i > 0 && log.size() < CALLS - 200; i--) rule();
        while (log.size() < CALLS - 64) {
            anything(points, code);
            if (random.nextInt(40) == 0) rule();
        }
        for (int what = 11; what <= 17; what++) call("status", what);
    }

    private void board(int points) throws Exception {
        for (int p = 0; p < points; p++) {
            if (random.nextInt(8) > 0) call("tie", p, (p + 1) % points, random.nextInt(4) == 0 ? 1 : 0, true);
        }
        for (int i = random.nextInt(points); i > 0; i--) {
            call("tie", random.nextInt(points), random.nextInt(points), random.nextInt(3), true);
        }
    }

    /** A CODE with some sense in it. */
    private int code() {
        int code = 0;
        for (int bit = 0; bit < 12; bit++) {
            if (random.nextInt(bit < 3 ? 2 : 3) == 0) code |= 1 << bit;
        }
        return code == 0 ? 1 : code;
    }

    private int somePoint() {
        return near(0, 11);
    }

    /** A number from low to high, now and then one beside, or far off. */
    private int near(int low, int high) {
        int kind = random.nextInt(60);
        if (kind == 0) return low - 1;
        if (kind == 1) return high + 1;
        if (kind == 2) return random.nextInt();
        return low + random.nextInt(high - low + 1);
    }

    private int someCode(int code) {
        int kind = random.nextInt(8);
        if (kind == 0) return near(1, 4095);
        if (kind == 1) return 1 << random.nextInt(12);
        if (kind == 2) return code();
        return kind < 5 ? code ^ 1 << random.nextInt(12) : code;
    }

    private int someMove() {
        int kind = random.nextInt(10);
        if (kind == 0) return near(0, 255);
        if (kind < 3) return near(240, 251);
        return 16 * random.nextInt(12) + random.nextInt(12);
    }

    private void row(int s, int sort, long[] elements) throws Exception {
        call("row", s, sort, elements.length);
        for (int i = 0; i < elements.length; i++) {
            if (elements[i] != 0) call("set", s, i, elements[i]);
        }
    }

    private void rule() throws Exception {
        StringBuilder text = new StringBuilder();
        for (int i = random.nextInt(3); i >= 0; i--) {
            text.append(WORDS[random.nextInt(WORDS.length)]).append(i > 0 ? ";" : "");
        }
        if (random.nextInt(4) == 0) text.setCharAt(random.nextInt(text.length()), "sjptme ;0123n.x".charAt(random.nextInt(15)));
        if (random.nextInt(8) == 0) text.setLength(random.nextInt(text.length() + 1));
        int s = random.nextInt(8);
        row(s, random.nextInt(4), text.chars().asLongStream().toArray());
        call("rule", s);
        call("fault");
    }

    /** A GAME as it would go by the CODE, or nearly so. */
    private void writeGame(int points, int code) throws Exception {
        long[] start = new long[12];
        for (int p = 0; p < points; p++) start[p] = random.nextInt(3);
        if (random.nextInt(3) == 0) Arrays.fill(start, 0);
        row(0, random.nextInt(4), start);
        PlainGame other = new PlainGame();
        for (int kind = 0; kind < 3; kind++) {
            for (int p = 0; p < 12; p++) {
                for (int q = 0; q < p; q++) {
                    if ((plain.tied(p, kind) >> q & 1) != 0) other.tie(p, q, kind, true);
                }
            }
        }
        for (int p = 0; p < 12; p++) other.point(p, (int) start[p]);
        List<Long> moves = new ArrayList<>();
        int most = random.nextInt(10) == 0 ? 20 : random.nextInt(7);
        for (int k = 0; k < most && other.moves(code) > 0; k++) {
            int move = other.move(code, random.nextInt(other.moves(code)));
            other.play(code, move);
            moves.add((long) (random.nextInt(25) == 0 ? someMove() : move));
        }
        row(1, 1 + random.nextInt(3), moves.stream().mapToLong(move -> move).toArray());
        int out = random.nextInt(12) == 0 ? near(-1, 1) : other.over(code);
        call("game", 0, 1, random.nextInt(15) == 0 ? near(0, 20) : moves.size(), out);
    }

    private void anything(int points, int code) throws Exception {
        switch (random.nextInt(10)) {
            case 0, 1 -> shelves();
            case 2, 3, 4 -> state(code);
            case 5, 6 -> games(code);
            case 7 -> boardOrImage(points);
            case 8 -> acts(code);
            default -> fitting(code);
        }
    }

    private void shelves() throws Exception {
        int s = near(0, 7);
        int t = near(0, 7);
        switch (random.nextInt(10)) {
            case 0 -> call("row", s, near(0, 3), near(0, 60));
            case 1, 2 -> call("set", s, near(0, 20), random.nextBoolean() ? random.nextLong() : (long) near(0, 127));
            case 3 -> call("copy", s, t, near(0, 6), near(0, 6), near(0, 6));
            case 4, 5 -> call("element", s, near(0, 20));
            case 6 -> call("show", s, near(-1, 7));
            case 7 -> call("holds", s);
            default -> call("says", s, near(0, 7));
        }
    }

    private void state(int code) throws Exception {
        int asked = someCode(code);
        switch (random.nextInt(12)) {
            case 0, 1, 2 -> call("point", somePoint(), near(0, 2));
            case 3 -> call("turn", near(0, 1));
            case 4 -> call("over", asked);
            case 5, 6 -> {
                long count = call("moves", asked);
                for (int i = 0; i <= Math.min(count, 9); i++) call("move", asked, i);
            }
            case 7 -> call("move", asked, near(0, 9));
            case 8 -> {
                int move = (int) call("move", asked, 0);
                call("play", asked, move);
            }
            case 9 -> call("play", asked, someMove());
            case 10 -> call("value", asked, near(0, 2 + random.nextInt(60) / 59));
            default -> call("best", asked, near(1, 2 + random.nextInt(60) / 59));
        }
    }

    private void games(int code) throws Exception {
        int asked = someCode(code);
        int game = near(0, 5);
        switch (random.nextInt(8)) {
            case 0 -> call("gameOf", game, random.nextInt(2) == 0 ? near(100, 106) : near(200, 211));
            case 1 -> call("gameOf", game, near(0, 1));
            case 2 -> call("load", game, near(0, 7), asked);
            case 3, 4 -> call("judge", game, asked);
            case 5 -> call("wide", asked);
            case 6 -> call("part", asked, someCode(code));
            default -> call("game", near(0, 7), near(0, 7), near(0, 20), near(-1, 1));
        }
    }

    private void boardOrImage(int points) throws Exception {
        switch (random.nextInt(8)) {
            case 0 -> call("image");
            case 1 -> call("restore");
            case 2, 3 -> call("tied", somePoint(), near(0, 2));
            case 4 -> call("tie", near(0, points - 1), near(0, points - 1), near(0, 2), random.nextBoolean());
            default -> call("status", near(0, 18));
        }
    }

    private void acts(int code) throws Exception {
        int asked = someCode(code);
        switch (random.nextInt(8)) {
            case 0, 1, 2 -> {
                call("act", near(0, 7), near(0, 2), random.nextBoolean() ? random.nextInt() : near(-9, 9));
                call("status", 6);
                for (int i = -1; i < 10; i++) call("trace", i);
            }
            case 3 -> call("price", asked);
            case 4 -> call("ruleOf", near(0, 7), near(0, 2));
            case 5 -> call("fault");
            case 6 -> call("same", asked, someCode(code));
            default -> {
                int bits = asked & 7;
                int turnedBits = bits << 1 & 7 | bits >> 2;
                int jumps = asked >> 3 & 7;
                int turnedJumps = jumps << 1 & 7 | jumps >> 2;
                call("same", asked, asked & ~63 | turnedBits | turnedJumps << 3);
            }
        }
    }

    private void fitting(int code) throws Exception {
        switch (random.nextInt(14)) {
            case 0 -> call("find");
            case 1 -> call("fits");
            case 2 -> call("rivals", near(0, 9));
            case 3, 4 -> call("rival", near(0, 9), near(0, 30));
            case 5 -> call("tight");
            case 6, 7 -> call("sure", someMove(), near(0, 9));
            case 8 -> call("ask", near(0, 9));
            case 9, 10 -> call("left", near(0, 9));
            default -> call("cheat", near(1, 25), near(0, 1));
        }
    }
}
