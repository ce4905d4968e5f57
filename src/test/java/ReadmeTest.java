import java.nio.charset.StandardCharsets;
import java.nio.file.Files;
import java.nio.file.Path;
import java.util.List;

/** The examples in README.md: each call stands there with what it answers, and answers that. */
public final class ReadmeTest {
    private static final Due DUE = new Due("ReadmeTest");
    private static List<String> page;

    public static void main(String[] args) throws Exception {
        page = Files.readAllLines(Path.of("README.md"), StandardCharsets.UTF_8);
        WhatGame game = new WhatGame();
        told("game.tie(0, 1, 0, true);", game.tie(0, 1, 0, true));
        told("game.row(0, 0, 12);", game.row(0, 0, 12));
        told("game.set(0, 0, 1);", game.set(0, 0, 1));
        told("game.row(1, 2, 1);", game.row(1, 2, 1));
        told("game.set(1, 0, 1);", game.set(1, 0, 1));
        told("game.game(0, 1, 1, WhatGame.NONE);", game.game(0, 1, 1, WhatGame.NONE));
        told("game.find();", game.find());
        told("game.rivals(1);", game.rivals(1));
        told("game.rival(1, 2);", game.rival(1, 2));
        told("game.judge(0, 8);", game.judge(0, 8));
        told("game.load(0, 1, 1);", game.load(0, 1, 1));
        told("game.moves(64);", game.moves(64));
        told("game.move(64, 0);", game.move(64, 0));
        told("game.sure(17, 1);", game.sure(17, 1));
        told("game.status(16);", game.status(16));
        String text = "step 0;end none";
        told("game.row(2, 0, text.length());", game.row(2, 0, text.length()));
        for (int i = 0; i < text.length(); i++) game.set(2, i, text.charAt(i));
        told("game.rule(2);", game.rule(2));
        told("game.ruleOf(0, 0);", game.ruleOf(0, 0));
        told("game.fault();", game.fault());
        DUE.is("examples on the page", page.stream().filter(line -> line.startsWith("game.")).count(), 19);
        DUE.end();
    }

    /** The call's line on the page ends with what it answered, and perhaps with what that says. */
    private static void told(String call, long answer) {
        boolean stands = page.stream().anyMatch(line -> line.matches("\\Q" + call + "\\E +// " + answer + "(:.*)?"));
        DUE.is(call + " answers " + answer + ", as the page tells", stands ? 1 : 0, 1);
    }
}
