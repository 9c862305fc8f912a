/** Promises 39 to 42: the input buffer and the commands in it. */
public final class CommandTest {
    private static void feed() {
        LaundryService s = new LaundryService();
        for (int i = 1; i <= 60; i++) {
            Check.same("39 length", s.feed((char) (i * 1091)), i);
        }
        Check.badState("39 full", () -> s.feed('s'));
        Check.badArgument("40 any characters", () -> s.runCommands());
        Check.same("41 the first one", s.errorPosition(), 0);
        Check.same("39 empty again", s.feed('s'), 1);
        Check.same("45 feeding is not recorded", s.undoCount(), 0);
    }

    private static void allCommands() {
        LaundryService s = new LaundryService();
        Check.same("40 two", Check.commands(s, "sock 3 7 255;shirt 0 0 07"), 2);
        Check.same("40 sock", s.packed(0), 0x3FFFL);
        Check.same("40 shirt", s.packed(1), 7L);
        Check.same("40 four", Check.commands(s, "load 0 1;load 01 0;heat 1 90;heat 0 20"), 4);
        Check.same("40 load 0", s.place(0), '1');
        Check.same("40 load 1", s.place(1), '0');
        Check.same("40 heat 1", s.temperature(1), 90f);
        Check.same("40 heat 0", s.temperature(0), 20f);
        Check.same("40 three", Check.commands(s, "out 00;out 1;load 1 0"), 3);
        Check.same("40 out", s.place(0), 'b');
        Check.same("40 one", Check.commands(s, "run 0"), 1);
        Check.same("40 run", s.washes(1), 1);
        Check.same("40 run counts", s.runCount(), 1);
        Check.same("40 paid", s.paid(0), 3.75f);
        Check.same("45 each call is one", s.undoCount(), 4);
        Check.noElement("41 none malformed", () -> s.errorPosition());
        Check.noElement("42 none failed", () -> s.failedCommand());
        Check.same("39 empty", s.feed('x'), 1);
    }

    private static void mostCommands() {
        LaundryService s = new LaundryService();
        for (int i = 0; i < 10; i++) {
            s.bring(0, false, 1, 0);
            if (i < 5) {
                s.load(i, 0);
            }
        }
        Check.same("40 ten", Check.commands(s, "run 0;load 9 1;run 1;load 9 1;run 1;load 9 1;run 1;load 9 1"), 8);
        Check.same("40 three runs of 9", s.washes(9), 3);
        LaundryService full = new LaundryService();
        for (int i = 0; i < 10; i++) {
            full.bring(0, false, 1, 0);
            full.load(i, i / 5);
        }
        String outs = "out 0;out 1;out 2;out 3;out 4;out 5;out 6;out 7;out 8;out 9";
        Check.same("39 nearly full", Check.feed(full, outs), 59);
        Check.same("40 ten of the shortest", full.runCommands(), 10);
        Check.same("40 all out", full.inBag(0), 1023);
        Check.same("39 full", Check.feed(full, outs + ";"), 60);
        Check.badArgument("40 nothing behind the last semicolon", () -> full.runCommands());
        Check.same("41 the length", full.errorPosition(), 60);
    }

    private static void malformed(String text, int due) {
        LaundryService s = new LaundryService();
        s.bring(0, true, 1, 1);
        Check.feed(s, text);
        Check.badArgument("40 '" + text + "'", () -> s.runCommands());
        Check.same("41 '" + text + "'", s.errorPosition(), due);
        Check.same("40 nothing carried out by '" + text + "'", s.garmentCount(), 1);
        Check.same("40 nothing to undo of '" + text + "'", s.undoCount(), 1);
        Check.same("40 emptied of '" + text + "'", s.feed('x'), 1);
        Check.noElement("42 no failed command in '" + text + "'", () -> s.failedCommand());
    }

    private static void tooShort() {
        String[] texts = {"", "s", "so", "soc", "sock", "sock ", "sock 0", "sock 0 ", "sock 0 1", "sock 0 1 ",
            "sh", "shirt", "shirt 3 7 ", "l", "load", "load 1", "load 12", "load 12 ", "o", "out", "out ",
            "h", "heat 1", "heat 1 ", "r", "ru", "run", "run ", "run 0;", "sock 0 1 2;", "sock 0 1 2;lo"};
        for (String text : texts) {
            malformed(text, text.length());
        }
    }

    private static void wrongCharacters() {
        // The character at the bar is the first that cannot go on.
        String[] texts = {
            "|x", "| sock 0 1 1", "|;", "|Sock 0 1 1", "s|Ock 0 1 1", "s|x", "so|k 0 1 1",
            "sh|ort 0 0 0", "sock|s 0 1 1", "sock|0 1 1", "sock | 0 1 1", "sock |x 1 1",
            "sock |-1 1 1", "sock 0|0 1 1", "sock 0|;", "sock 0 1|1 1", "sock 0 1 |;",
            "sock 0 1 255|5", "sock 0 1 1| ", "sock 0 1 1|x", "sock 0 1 000|1",
            "shirt 0 0 0|,run 0", "load 1|;", "load 12|3 0", "load 1 0|0", "load 1 |x",
            "load | 1 0", "out 12|3", "out 1| 0", "out|;", "heat 0 90|0", "heat 0 20|.5",
            "heat 0|0 20", "heat 0 |-5", "run 0|0", "run 0| ", "run 0;|;", "run 0;| run 0",
            "run 0;run |", "r|an 0", "ru|m 0", "o|at 0", "h|at 0 30", "l|ead 0 0",
            "sock 0 1 1;shirt 0 1 1;|Run 0", "run |\u0660", "run |/", "run |:", "|\uFFFF",
            "run 0|\u0000",
        };
        for (String text : texts) {
            malformed(text.replace("|", ""), text.indexOf('|'));
        }
    }

    private static void earlierTextsAreForgotten() {
        LaundryService s = new LaundryService();
        String[] texts = {"r", "run", "run ", "sock 0 1 ", "sock 0 1 1;"};
        for (String text : texts) {
            s.bring(0, false, 1, 1);
            Check.same("40 a longer text", Check.commands(s, "sock 0 1 001"), 1);
            Check.feed(s, text);
            Check.badArgument("40 '" + text + "' after a longer one", () -> s.runCommands());
            Check.same("41 '" + text + "' after a longer one", s.errorPosition(), text.length());
        }
        Check.feed(s, "run 1");
        Check.unsupported("40 empty machine", () -> s.runCommands());
        Check.feed(s, "r");
        Check.badArgument("40 'r' after 'run 1'", () -> s.runCommands());
        Check.same("41 'r' after 'run 1'", s.errorPosition(), 1);
        Check.badArgument("40 nothing after 'r'", () -> s.runCommands());
        Check.same("41 nothing after 'r'", s.errorPosition(), 0);
    }

    private static void failing(LaundryService s, String text, int due) {
        long before = s.garmentCount() > 0 ? s.packed(0) : -1;
        int count = s.garmentCount();
        int undo = s.undoCount();
        float heat = s.temperature(0);
        Check.same("40 emptied before '" + text + "'", Check.feed(s, text), text.length());
        Check.unsupported("40 '" + text + "'", () -> s.runCommands());
        Check.same("42 '" + text + "'", s.failedCommand(), due);
        Check.same("40 garments are kept in '" + text + "'", s.garmentCount(), count);
        Check.same("40 the garment 0 is kept in '" + text + "'", s.garmentCount() > 0 ? s.packed(0) : -1, before);
        Check.same("40 calls to undo are kept in '" + text + "'", s.undoCount(), undo);
        Check.same("40 the temperature is kept in '" + text + "'", s.temperature(0), heat);
        Check.noElement("41 nothing malformed in '" + text + "'", () -> s.errorPosition());
    }

    private static void failingCommands() {
        LaundryService s = new LaundryService();
        failing(s, "sock 4 0 0", 0);
        failing(s, "sock 0 8 0", 0);
        failing(s, "sock 0 0 256", 0);
        failing(s, "shirt 9 9 999", 0);
        failing(s, "run 0", 0);
        failing(s, "run 2", 0);
        failing(s, "out 0", 0);
        failing(s, "load 0 0", 0);
        failing(s, "heat 0 19", 0);
        failing(s, "heat 0 91", 0);
        failing(s, "heat 0 5", 0);
        failing(s, "heat 2 50", 0);
        s.bring(0, true, 1, 0);
        s.load(0, 0);
        failing(s, "heat 0 60;run 0;out 0", 2);
        failing(s, "run 0;run 0", 1);
        failing(s, "sock 0 0 1;heat 0 70;load 1 0;load 99 0;run 0", 3);
        failing(s, "load 0 2", 0);
        failing(s, "out 1", 0);
        Check.same("30 what failed is not paid", s.paid(0), 0f);
        Check.same("33 what failed is no run", s.runCount(), 0);
        for (int i = 1; i < 15; i++) {
            s.bring(1, false, 1, 0);
        }
        failing(s, "shirt 0 0 0;shirt 0 0 0", 1);
        failing(s, "load 1 0;load 2 0;load 3 0;load 4 0;load 5 0", 4);
    }

    private static void whatIsKept() {
        LaundryService s = new LaundryService();
        Check.feed(s, "run 0x");
        Check.badArgument("40 malformed", () -> s.runCommands());
        Check.feed(s, "sock 0 0 0;run 0");
        Check.unsupported("40 failing", () -> s.runCommands());
        Check.same("41 stays after a failed command", s.errorPosition(), 5);
        Check.same("42 failed", s.failedCommand(), 1);
        Check.feed(s, "runs");
        Check.badArgument("40 malformed again", () -> s.runCommands());
        Check.same("42 stays after a malformed text", s.failedCommand(), 1);
        Check.same("41 the latest", s.errorPosition(), 3);
        Check.commands(s, "sock 0 0 0");
        s.undo();
        s.save();
        s.restore();
        Check.same("41 stays after commands, undo and restore", s.errorPosition(), 3);
        Check.same("42 stays after commands, undo and restore", s.failedCommand(), 1);
        Check.feed(s, "out 0");
        Check.unsupported("40 failing again", () -> s.runCommands());
        Check.same("42 the latest", s.failedCommand(), 0);
        Check.feed(s, "run 0x;heat 9 99");
        Check.badArgument("40 malformed before it fails", () -> s.runCommands());
        Check.same("39 emptied in all cases", s.feed('x'), 1);
    }

    public static void main(String[] args) {
        feed();
        allCommands();
        mostCommands();
        tooShort();
        wrongCharacters();
        earlierTextsAreForgotten();
        failingCommands();
        whatIsKept();
        Check.end();
    }
}
