/** The boundaries that the document's "Terms" name under Commands, and its promises 39 to 42. */
public final class TermsCommandsTest {
    /** Garments 0 to 11: the first five are in the machine 0, the others in the bag of client 0. */
    private static LaundryService twelve() {
        LaundryService s = new LaundryService();
        for (int i = 0; i < 12; i++) {
            s.bring(0, false, 1, 128);
            if (i < 5) {
                s.load(i, 0);
            }
        }
        return s;
    }

    private static void carriedOut(String text, int commands) {
        LaundryService s = twelve();
        String before = Look.state(s);
        Check.feed(s, text);
        Check.same("40 '" + text + "'", s.runCommands(), commands);
        Check.noElement("41 no error in '" + text + "'", () -> s.errorPosition());
        Check.noElement("42 no failure in '" + text + "'", () -> s.failedCommand());
        Check.same("39 emptied of '" + text + "'", s.feed('x'), 1);
        Check.same("46 one call: '" + text + "'", s.undo(), 7);
        Check.same("46 all undone of '" + text + "'", Look.state(s), before);
    }

    /** All that is seen but the kept error position stays as it was. */
    private static void malformed(String text, int due) {
        LaundryService s = twelve();
        String before = Look.state(s);
        Check.feed(s, text);
        Check.badArgument("40 '" + text + "'", () -> s.runCommands());
        Check.same("41 '" + text + "'", s.errorPosition(), due);
        Check.noElement("42 no failure in '" + text + "'", () -> s.failedCommand());
        Check.same("40 the state after '" + text + "'", Look.state(s), before);
        Check.same("39 emptied of '" + text + "'", s.feed('x'), 1);
    }

    /** All that is seen but the kept failed command stays as it was. */
    private static void failing(LaundryService s, String text, int due) {
        String before = Look.state(s);
        int undo = s.undoCount();
        Check.feed(s, text);
        Check.unsupported("40 '" + text + "'", () -> s.runCommands());
        Check.same("42 '" + text + "'", s.failedCommand(), due);
        Check.noElement("41 no error in '" + text + "'", () -> s.errorPosition());
        Check.same("40 the state after '" + text + "'", Look.state(s), before);
        Check.same("45 no call to undo after '" + text + "'", s.undoCount(), undo);
        Check.same("39 emptied of '" + text + "'", s.feed('x'), 1);
    }

    private static void failing(String text, int due) {
        failing(twelve(), text, due);
    }

    /** "The input buffer holds at most 60 characters." */
    private static void sixtyCharacters() {
        String text = "load 5 1;load 6 1;load 7 1;load 8 1;load 9 1;sock 0 0 1;run 1";
        Check.same("39 longer than the buffer", text.length(), 61);
        LaundryService s = twelve();
        for (int i = 1; i <= 60; i++) {
            Check.same("39 the new length", s.feed(text.charAt(i - 1)), i);
        }
        Check.badState("39 the 61st character", () -> s.feed('1'));
        Check.badState("39 the 61st character again", () -> s.feed('1'));
        Check.badArgument("40 the 61st character is not there", () -> s.runCommands());
        Check.same("41 the length of a full buffer", s.errorPosition(), 60);
        Check.same("39 empty", s.feed('r'), 1);
    }

    /** The last of 60 characters counts. */
    private static void aTextOfSixtyCharacters() {
        String text = "sock 3 7 255;sock 3 7 255;sock 3 7 255;heat 1 90;heat 0 020";
        Check.same("39 nearly full", text.length(), 59);
        malformed(text, 58);
        text = "sock 3 7 255;sock 3 7 255;sock 3 7 255;sock 3 7 255;run 0;ru";
        Check.same("39 full", text.length(), 60);
        malformed(text, 60);
        text = "sock 3 7 255;sock 3 7 255;sock 3 7 25;shirt 3 7 25;heat 0 90";
        Check.same("39 full of commands", text.length(), 60);
        carriedOut(text, 5);
        LaundryService s = twelve();
        Check.commands(s, text);
        Check.same("40 the last command of a full buffer", s.temperature(0), 90f);
        failing("sock 3 7 255;sock 3 7 255;sock 3 7 25;shirt 3 7 25;heat 0 91", 4);
    }

    /** "A text consists of one or more commands": none is malformed. */
    private static void oneOrMoreCommands() {
        malformed("", 0);
        carriedOut("run 0", 1);
        carriedOut("run 0;load 0 0", 2);
        carriedOut("out 0;out 1;out 2;out 3;out 4;load 0 1;load 1 1;load 2 1", 8);
        LaundryService s = twelve();
        for (int i = 5; i < 10; i++) {
            s.load(i, 1);
        }
        Check.same("40 as many as fit", Check.commands(s, "out 0;out 1;out 2;out 3;out 4;out 5;out 6;out 7;out 8;out 9"), 10);
        Check.same("40 all ten", s.inBag(0), 4095);
    }

    /** "... separated by semicolons": between commands, one each, and by nothing else. */
    private static void separatedBySemicolons() {
        malformed(";", 0);
        malformed(";run 0", 0);
        malformed("run 0;", 6);
        malformed("run 0;;run 1", 6);
        malformed("run 0; run 1", 6);
        malformed("run 0 ;run 1", 5);
        malformed("run 0,run 1", 5);
        malformed("run 0:run 1", 5);
        malformed("run 0\nrun 1", 5);
        malformed("run 0run 1", 5);
        malformed("run 0" + (char) (';' + 256) + "run 1", 5);
    }

    /** Each command does what its method does. */
    private static void whatCommandsDo() {
        LaundryService s = new LaundryService();
        Check.commands(s, "sock 3 7 255");
        Check.same("40 sock", s.packed(0), 0x3FFFL);
        Check.commands(s, "shirt 0 0 0");
        Check.same("40 shirt", s.packed(1), 0L);
        Check.commands(s, "load 0 1");
        Check.same("40 load", s.place(0), '1');
        Check.commands(s, "out 0");
        Check.same("40 out", s.place(0), 'b');
        Check.commands(s, "heat 1 90");
        Check.same("40 heat", s.temperature(1), 90f);
        Check.same("40 the other machine", s.temperature(0), 40f);
        Check.commands(s, "load 1 0;run 0");
        Check.same("40 run", s.washes(1), 1);
        Check.same("45 each text is one call", s.undoCount(), 6);
        s.undo();
        Check.same("46 a text of two commands is undone at once", s.packed(1), 0L);
        Check.same("46 its run too", s.runCount(), 0);
        Check.same("46 its price too", s.paid(0), 0f);
    }

    /** "Sets of stains have one to three digits ..." */
    private static void setsOfStains() {
        carriedOut("sock 0 1 0", 1);
        carriedOut("sock 0 1 00", 1);
        carriedOut("sock 0 1 255", 1);
        carriedOut("shirt 0 1 007", 1);
        malformed("sock 0 1 ", 9);
        malformed("shirt 0 1 ", 10);
        malformed("sock 0 1 0000", 12);
        malformed("shirt 0 1 1280", 13);
        malformed("sock 0 1 ;run 0", 9);
        malformed("sock 0 1 1;shirt 0 1 0255", 24);
        LaundryService s = new LaundryService();
        Check.commands(s, "sock 0 1 7;sock 0 1 70;sock 0 1 170");
        Check.commands(s, "shirt 0 1 07;shirt 0 1 007");
        int[] stains = {7, 70, 170, 7, 7};
        for (int i = 0; i < 5; i++) {
            Check.same("40 stains of " + i, s.stains(i), stains[i]);
        }
    }

    /** "... garments and degrees have one or two." */
    private static void garmentsAndDegrees() {
        carriedOut("load 5 1", 1);
        carriedOut("load 05 1", 1);
        carriedOut("load 11 1", 1);
        malformed("load  1", 5);
        malformed("load 005 1", 7);
        malformed("load 111 1", 7);
        carriedOut("out 0", 1);
        carriedOut("out 00", 1);
        malformed("out ", 4);
        malformed("out 000", 6);
        malformed("out 0 ", 5);
        carriedOut("heat 0 20", 1);
        malformed("heat 0 ", 7);
        malformed("heat 0 020", 9);
        malformed("heat 0 100", 9);
        malformed("heat 0 20.", 9);
        failing("heat 0 9", 0);
        failing("heat 0 09", 0);
        LaundryService s = twelve();
        s.bring(1, false, 1, 0);
        Check.commands(s, "load 11 1;load 10 1");
        Check.same("40 garments of two digits", s.inMachine(1), 3 << 10);
        Check.commands(s, "load 09 1;out 11");
        Check.same("40 garments with a zero before", s.inMachine(1), 3 << 9);
    }

    /** "... all other numbers are single digits": client, colour and machine. */
    private static void singleDigits() {
        malformed("sock 00 1 1", 6);
        malformed("shirt 01 1 1", 7);
        malformed("sock 0 01 1", 8);
        malformed("shirt 0 17 1", 9);
        malformed("load 5 01", 8);
        malformed("load 5 10", 8);
        malformed("heat 00 40", 6);
        malformed("heat 10 40", 6);
        malformed("run 00", 5);
        malformed("run 01", 5);
        malformed("sock  1 1", 5);
        malformed("sock 0  1", 7);
        malformed("load 5 ", 7);
        malformed("heat  40", 5);
        malformed("run ", 4);
    }

    /** Where a digit must stand, the characters around '0' and '9' and far above are none. */
    private static void whatIsNoDigit() {
        char[] none = {'/', ':', '-', '+', '.', ' ', ';', 'a', 'O', 0, 0xFFFF, 0x0660, 0xFF10, '0' + 128, '0' + 256};
        for (char sign : none) {
            malformed("sock " + sign + " 1 1", 5);
            malformed("sock 0 " + sign + " 1", 7);
            malformed("sock 0 1 " + sign, 9);
            malformed("shirt " + sign + " 1 1", 6);
            malformed("shirt 0 " + sign + " 1", 8);
            malformed("shirt 0 1 " + sign, 10);
            malformed("load " + sign + " 1", 5);
            malformed("load 5 " + sign, 7);
            malformed("out " + sign, 4);
            malformed("heat " + sign + " 40", 5);
            malformed("heat 0 " + sign, 7);
            malformed("run " + sign, 4);
            if (sign != ';') {
                malformed("sock 0 1 1" + sign, 10);
                malformed("sock 0 1 11" + sign, 11);
                malformed("out 1" + sign, 5);
                malformed("heat 0 4" + sign, 8);
            }
            if (sign != ' ') {
                malformed("load 1" + sign + " 1", 6);
            }
        }
    }

    /** "... a blank ...": one, and no other sign, between a word and each number. */
    private static void whatIsNoBlank() {
        char[] none = {'\t', '\n', '_', '0', ';', 0, 160, ' ' + 256, 0xFFFF};
        for (char sign : none) {
            malformed("sock" + sign + "0 1 1", 4);
            malformed("sock 0" + sign + "1 1", 6);
            malformed("sock 0 1" + sign + "1", 8);
            malformed("shirt" + sign + "0 1 1", 5);
            malformed("shirt 0" + sign + "1 1", 7);
            malformed("shirt 0 1" + sign + "1", 9);
            malformed("load" + sign + "5 1", 4);
            malformed("load 05" + sign + "1", 7);
            malformed("out" + sign + "5", 3);
            malformed("heat" + sign + "0 40", 4);
            malformed("heat 0" + sign + "40", 6);
            malformed("run" + sign + "0", 3);
        }
        malformed("sock  0 1 1", 5);
        malformed("sock 0  1 1", 7);
        malformed("sock 0 1  1", 9);
        malformed("load 5  1", 7);
        malformed("out  5", 4);
        malformed("heat 0  40", 7);
        malformed("run  0", 4);
        malformed(" run 0", 0);
        malformed("run 0 ", 5);
    }

    /** "Keywords are compared letter by letter": each wrong letter is an error where it stands. */
    private static void keywordsLetterByLetter() {
        String[] words = {"sock", "shirt", "load", "out", "heat", "run"};
        for (String word : words) {
            for (int i = 0; i < word.length(); i++) {
                char right = word.charAt(i);
                char[] wrong = {(char) (right - 32), (char) (right + 256), 'z', ' ', ';', '0', 0, 0xFFFF};
                for (char sign : wrong) {
                    String start = word.substring(0, i) + sign;
                    malformed(start, i);
                    malformed(start + word.substring(i + 1) + " 0 1 1", i);
                    malformed("run 0;" + start + word.substring(i + 1) + " 0", 6 + i);
                }
            }
            malformed(word + word.charAt(word.length() - 1), word.length());
            malformed(word + "s 0", word.length());
        }
        malformed("shock 0 1 1", 2);
        malformed("soirt 0 1 1", 2);
        malformed("sirt 0 1 1", 1);
        malformed("lout 0", 2);
        malformed("hut 0", 1);
        malformed("rout 0", 1);
        malformed("socks 0 1 1", 4);
    }

    /** "... or the length of the text if the text ends too early": each beginning of each command. */
    private static void textsThatEndTooEarly() {
        String[] texts = {"sock 0 1 2", "shirt 0 1 2", "load 1 0", "load 11 0", "out 1", "heat 0 4", "run 0"};
        for (String text : texts) {
            for (int length = 0; length < text.length(); length++) {
                malformed(text.substring(0, length), length);
                malformed("run 0;" + text.substring(0, length), 6 + length);
            }
        }
    }

    /** "... the index of the first character that cannot continue a well-formed text", up to 59. */
    private static void errorPositionsFromZeroToSixty() {
        String text = "out 0;out 1;out 2;out 3;out 4;out 5;out 6;out 7;out 8;out 9;";
        for (int position = 0; position < 60; position++) {
            malformed(text.substring(0, position) + "#", position);
            malformed(text.substring(0, position) + "#" + text.substring(position + 1), position);
        }
        malformed(text, 60);
    }

    /** "If a command throws an exception ...": each reason of each method, by a text. */
    private static void commandsThatThrow() {
        String[] texts = {"sock 4 1 1", "sock 9 1 1", "shirt 4 0 0", "sock 0 8 1", "shirt 0 9 1", "sock 0 1 256",
            "shirt 0 1 999", "load 12 1", "load 99 1", "load 5 2", "load 5 9", "load 0 1", "load 0 0", "load 5 0",
            "out 12", "out 99", "out 5", "out 11", "heat 2 40", "heat 9 40", "heat 0 19", "heat 0 91", "heat 1 99",
            "heat 1 0", "heat 0 00", "run 1", "run 2", "run 9"};
        for (String text : texts) {
            failing(text, 0);
            failing("heat 0 90;" + text, 1);
            failing("heat 1 90;heat 0 90;" + text + ";heat 0 20", 2);
        }
        String[] good = {"sock 3 1 1", "shirt 3 0 0", "sock 0 7 1", "shirt 0 7 1", "sock 0 1 255", "shirt 0 1 255",
            "load 11 1", "load 5 1", "out 0", "out 4", "heat 1 40", "heat 0 20", "heat 1 90", "run 0"};
        for (String text : good) {
            carriedOut(text, 1);
        }
    }

    /** "At most 16 garments are in the service", and a text brings the seventeenth. */
    private static void theSeventeenthByAText() {
        LaundryService s = twelve();
        s.bring(0, true, 1, 0);
        s.bring(0, true, 1, 0);
        failing(s, "sock 0 1 0;shirt 0 1 0;sock 0 1 0", 2);
        Check.same("7 still fourteen", s.garmentCount(), 14);
    }

    /** "If a command throws an exception, the state from before the call is kept", all of it. */
    private static void theStateFromBeforeIsKept() {
        LaundryService s = twelve();
        s.bring(3, true, 7, 0);
        s.load(12, 1);
        failing(s, "run 1;run 0;heat 0 90;load 5 1;out 5;sock 0 1 1;run 1", 6);
        Check.same("20 nothing is lost", s.lost(), 0);
        Check.same("33 there was no run", s.runCount(), 0);
        Check.same("30 nothing is paid", s.paid(3), 0f);
        Check.same("46 the call before can be undone", s.undo(), 7);
        Check.same("46 it is undone", s.place(12), 'b');
    }

    /** "The input buffer is empty afterwards in all cases": carried out, malformed, failed. */
    private static void theInputIsEmptyAfterwards() {
        LaundryService s = twelve();
        Check.commands(s, "run 0");
        Check.same("39 after commands", s.feed('r'), 1);
        Check.badArgument("40 malformed", () -> s.runCommands());
        Check.same("39 after a malformed text", s.feed('o'), 1);
        Check.feed(s, "ut 0");
        Check.unsupported("40 failed", () -> s.runCommands());
        Check.same("39 after a failed text", s.feed('x'), 1);
        Check.badArgument("40 malformed again", () -> s.runCommands());
        Check.badArgument("40 nothing is left", () -> s.runCommands());
        Check.same("41 nothing is left", s.errorPosition(), 0);
    }

    /** Promise 39: "any character": each goes into the buffer, and counts. */
    private static void anyCharacter() {
        char[] signs = {0, 1, '\n', ' ', ';', '0', 'z', 127, 128, 255, 256, 0x7FFF, 0x8000, 0xD800, 0xFFFF};
        LaundryService s = new LaundryService();
        for (int i = 0; i < signs.length; i++) {
            Check.same("39 the character " + (int) signs[i], s.feed(signs[i]), i + 1);
        }
    }

    /** Promise 40: a text that is malformed after a command that would throw is malformed. */
    private static void malformedIsListedFirst() {
        malformed("run 1;x", 6);
        malformed("heat 9 99;out 99;load 99 9;", 27);
        malformed("sock 9 9 999;sock 9 9 9999", 25);
    }

    /** Promise 41: "the latest malformed text", whatever comes between. */
    private static void theLatestErrorPosition() {
        LaundryService s = twelve();
        int[] positions = {5, 0, 4, 1};
        String[] texts = {"run 0x", "", "run ", "r;"};
        for (int i = 0; i < texts.length; i++) {
            Check.feed(s, texts[i]);
            Check.badArgument("40 malformed " + i, () -> s.runCommands());
            Check.same("41 the latest of " + i, s.errorPosition(), positions[i]);
            Check.commands(s, "heat 0 50");
            Check.same("41 after a good text " + i, s.errorPosition(), positions[i]);
            Check.feed(s, "out 9");
            Check.unsupported("40 failing " + i, () -> s.runCommands());
            Check.same("41 after a failing text " + i, s.errorPosition(), positions[i]);
        }
    }

    /** Promise 42: "in the latest failed call", from the first command to the tenth. */
    private static void theLatestFailedCommand() {
        for (int i = 9; i >= 0; i--) {
            LaundryService one = twelve();
            for (int garment = 5; garment < 10; garment++) {
                if (garment != i) {
                    one.load(garment, 1);
                }
            }
            if (i < 5) {
                one.takeOut(i);
            }
            failing(one, "out 0;out 1;out 2;out 3;out 4;out 5;out 6;out 7;out 8;out 9", i);
        }
        LaundryService s = twelve();
        Check.feed(s, "heat 0 50;run 1");
        Check.unsupported("40 failing", () -> s.runCommands());
        Check.same("42 the second", s.failedCommand(), 1);
        Check.commands(s, "heat 0 50");
        Check.same("42 after a good text", s.failedCommand(), 1);
        Check.feed(s, "run");
        Check.badArgument("40 malformed", () -> s.runCommands());
        Check.same("42 after a malformed text", s.failedCommand(), 1);
        Check.feed(s, "run 1");
        Check.unsupported("40 failing again", () -> s.runCommands());
        Check.same("42 the latest", s.failedCommand(), 0);
    }

    public static void main(String[] args) {
        sixtyCharacters();
        aTextOfSixtyCharacters();
        oneOrMoreCommands();
        separatedBySemicolons();
        whatCommandsDo();
        setsOfStains();
        garmentsAndDegrees();
        singleDigits();
        whatIsNoDigit();
        whatIsNoBlank();
        keywordsLetterByLetter();
        textsThatEndTooEarly();
        errorPositionsFromZeroToSixty();
        commandsThatThrow();
        theSeventeenthByAText();
        theStateFromBeforeIsKept();
        theInputIsEmptyAfterwards();
        anyCharacter();
        malformedIsListedFirst();
        theLatestErrorPosition();
        theLatestFailedCommand();
        Check.end();
    }
}
