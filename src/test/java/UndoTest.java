/** Promises 45 to 48: undo, save and restore. */
public final class UndoTest {
    private static void undoEachKind() {
        LaundryService s = new LaundryService();
        Check.badState("46 nothing", () -> s.undo());
        Check.same("45 nothing", s.undoCount(), 0);
        String[] looks = new String[8];
        int step = 0;
        looks[step++] = Look.state(s);
        s.bring(1, true, 2, 3);
        looks[step++] = Look.state(s);
        s.load(0, 1);
        looks[step++] = Look.state(s);
        s.takeOut(0);
        looks[step++] = Look.state(s);
        s.load(0, 0);
        looks[step++] = Look.state(s);
        s.setTemperature(0, 121);
        looks[step++] = Look.state(s);
        s.run(0);
        looks[step++] = Look.state(s);
        Check.commands(s, "shirt 0 0 1;load 1 1;heat 1 50;run 1");
        looks[step] = Look.state(s);
        s.setTemperature(1, 100);
        Check.same("45 eight", s.undoCount(), 8);
        for (int left = 7; left >= 0; left--) {
            Check.same("46 left", s.undo(), left);
            Check.same("45 left", s.undoCount(), left);
            Check.same("46 state " + left, Look.state(s), looks[left]);
        }
        Check.badState("46 nothing left", () -> s.undo());
    }

    private static void onlyTheLatestEight() {
        LaundryService s = new LaundryService();
        for (int i = 0; i < 13; i++) {
            s.bring(0, true, 1, i);
            Check.same("45 after " + i, s.undoCount(), Math.min(i + 1, 8));
        }
        for (int left = 7; left >= 0; left--) {
            Check.same("46 left", s.undo(), left);
        }
        Check.same("46 five stay", s.garmentCount(), 5);
        Check.badState("46 the ninth", () -> s.undo());
        Check.same("46 a new garment in an old place", s.bring(3, false, 7, 255), 5);
        Check.same("46 looks new", s.packed(5), 255L | 7L << 8 | 3L << 11);
        Check.same("45 one", s.undoCount(), 1);
    }

    private static void whatIsNotRecorded() {
        LaundryService s = new LaundryService();
        s.bring(0, true, 1, 5);
        s.load(0, 0);
        Check.badState("6 empty", () -> s.run(1));
        Check.noIndex("2 no client", () -> s.bring(9, true, 0, 0));
        Check.unsupported("3 not in its bag", () -> s.load(0, 0));
        Check.noIndex("4 no garment", () -> s.takeOut(1));
        Check.badArgument("5 too cold", () -> s.setTemperature(0, 0));
        s.damage(0);
        s.bestTemperature(0);
        s.writeBag(0);
        s.feed('s');
        s.save();
        Check.same("45 two", s.undoCount(), 2);
        s.setTemperature(0, 80);
        Check.same("45 recorded though nothing changes", s.undoCount(), 3);
        Check.same("46 two", s.undo(), 2);
        Check.same("46 still loaded", s.place(0), '0');
        Check.same("46 one", s.undo(), 1);
        Check.same("46 unloaded", s.place(0), 'b');
    }

    private static void whatIsNotUndone() {
        LaundryService s = new LaundryService();
        s.bring(0, true, 1, 5);
        s.writeBag(0);
        Check.feed(s, "ru");
        s.undo();
        Check.same("44 output stays", Check.output(s, 4), "s1**");
        Check.same("39 input stays", s.feed('n'), 3);
        s.save();
        s.restore();
        Check.same("44 output stays after restore", s.outputChar(3), '*');
        Check.same("39 input stays after restore", s.feed(' '), 4);
        Check.same("40 input stays", refusalOfInput(s), 4);
    }

    private static int refusalOfInput(LaundryService s) {
        Check.badArgument("40 'run '", () -> s.runCommands());
        return s.errorPosition();
    }

    private static void failedCommandsKeepAllEight() {
        LaundryService s = new LaundryService();
        for (int i = 0; i < 12; i++) {
            s.bring(0, true, 1, i);
        }
        Check.feed(s, "sock 0 0 0;load 0 0;run 1");
        Check.unsupported("40 failing", () -> s.runCommands());
        Check.same("45 eight", s.undoCount(), 8);
        for (int left = 7; left >= 0; left--) {
            s.undo();
            Check.same("46 garments", s.garmentCount(), 4 + left);
        }
    }

    private static void saveAndRestore() {
        LaundryService s = new LaundryService();
        Check.badState("48 nothing saved", () -> s.restore());
        s.bring(2, true, 1, 5);
        s.bring(2, false, 0, 1);
        s.load(1, 1);
        s.setTemperature(1, 130);
        s.run(1);
        s.load(0, 0);
        String look = Look.state(s);
        Check.same("47 garments", s.save(), 2);
        Check.same("45 save leaves the calls to undo", s.undoCount(), 6);
        s.undo();
        s.undo();
        s.undo();
        s.undo();
        s.undo();
        s.bring(3, false, 7, 255);
        s.load(1, 0);
        s.run(0);
        s.setTemperature(0, 50);
        Check.same("48 garments", s.restore(), 2);
        Check.same("48 state", Look.state(s), look);
        Check.same("48 nothing to undo", s.undoCount(), 0);
        Check.badState("48 nothing to undo", () -> s.undo());
        s.run(0);
        s.bring(0, true, 0, 0);
        Check.same("45 counts anew", s.undoCount(), 2);
        Check.same("48 the saved state is kept", s.restore(), 2);
        Check.same("48 state again", Look.state(s), look);
        s.bring(0, true, 0, 0);
        Check.same("47 replaced", s.save(), 3);
        s.undo();
        Check.same("48 the later one", s.restore(), 3);
    }

    private static void restoreForgetsTheCalls() {
        LaundryService s = new LaundryService();
        Check.same("47 none", s.save(), 0);
        s.bring(0, true, 0, 0);
        Check.same("48 none", s.restore(), 0);
        Check.badState("46 nothing", () -> s.undo());
        s.bring(1, true, 1, 1);
        Check.same("46 one call only", s.undo(), 0);
        Check.same("46 back to the restored state", s.garmentCount(), 0);
    }

    /** What an undone garment leaves behind must not be counted anywhere. */
    private static void undoneGarmentsAreGone() {
        LaundryService s = new LaundryService();
        s.bring(0, false, 0, 255);
        s.setTemperature(0, 120);
        s.save();
        s.bring(0, true, 7, 255);
        s.load(1, 0);
        s.load(0, 0);
        s.run(0);
        s.load(1, 0);
        s.restore();
        Check.same("19 no load", s.inMachine(0), 0);
        Check.same("24 no load", s.commonStains(0), 255);
        Check.same("25 no load", s.coloursIn(0), 0);
        Check.same("29 no load", s.price(0, 0), 0f);
        s.load(0, 0);
        Check.same("19 its own load", s.inMachine(0), 1);
        Check.same("25 its own colour", s.coloursIn(0), 1);
        Check.same("29 its own price", s.price(0, 0), 8.75f);
        Check.same("26 its own damage", s.damage(0), 3);
        Check.same("27 its own damage", s.damageByMasks(0), 3);
        s.run(0);
        Check.same("6 its own colour runs", s.stains(0), 1);
        Check.same("18 its own bag", s.inBag(0), 1);
        Check.same("43 its own bag", s.writeBag(0), 3);
        Check.same("36 its own stains", s.meanStains(), 1.0);
        Check.same("2 the next index", s.bring(0, true, 7, 255), 1);
        Check.same("14 no runs of the one before", s.washes(1), 0);
        Check.same("13 no place of the one before", s.place(1), 'b');
    }

    private static void undoneSocksAreGone() {
        LaundryService s = new LaundryService();
        s.bring(0, true, 7, 0);
        s.bring(0, true, 7, 0);
        Check.same("16 a pair", s.pairCount(0), 1);
        s.undo();
        Check.same("16 none", s.pairCount(0), 0);
        Check.same("17 none", s.pairCountByParity(0), 0);
        Check.noElement("15 none", () -> s.partner(0));
        s.save();
        s.bring(0, true, 7, 255);
        s.load(1, 0);
        s.restore();
        s.load(0, 0);
        Check.same("26 alone", s.damage(0), 10);
        Check.same("27 alone", s.damageByMasks(0), 10);
        Check.same("6 alone", s.run(0), 1);
    }

    public static void main(String[] args) {
        undoEachKind();
        onlyTheLatestEight();
        whatIsNotRecorded();
        whatIsNotUndone();
        failedCommandsKeepAllEight();
        saveAndRestore();
        restoreForgetsTheCalls();
        undoneGarmentsAreGone();
        undoneSocksAreGone();
        Check.end();
    }
}
