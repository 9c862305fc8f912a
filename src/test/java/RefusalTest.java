import java.util.NoSuchElementException;
import java.util.function.Consumer;
import java.util.function.Supplier;

/**
 * Each "Throws" of the document but those of runCommands, a sentence each: with what is too small,
 * too large, empty or full, and with numbers that are in range again when bits of them are cut off.
 * After each refused call the object must be as one that was not called: "A method that throws an
 * exception leaves the state unchanged."
 */
public final class RefusalTest {
    private static final Class<IndexOutOfBoundsException> INDEX = IndexOutOfBoundsException.class;
    private static final Class<IllegalArgumentException> ARGUMENT = IllegalArgumentException.class;
    private static final Class<IllegalStateException> STATE = IllegalStateException.class;
    private static final Class<UnsupportedOperationException> UNSUPPORTED = UnsupportedOperationException.class;
    private static final Class<NoSuchElementException> NO_ELEMENT = NoSuchElementException.class;
    private static final Class<ArithmeticException> ARITHMETIC = ArithmeticException.class;

    private static final int[] NO_GARMENTS = {-1, -2, -16, -32, -256, -65536, Integer.MIN_VALUE, Integer.MIN_VALUE + 1,
        8, 9, 15, 16, 17, 31, 32, 33, 64, 256, 257, 65536, 65537, Integer.MAX_VALUE};
    private static final int[] NO_CLIENTS = {-1, -2, -4, -32, -256, -65536, Integer.MIN_VALUE, Integer.MIN_VALUE + 1,
        4, 5, 7, 8, 16, 32, 33, 64, 256, 257, 65536, 65537, Integer.MAX_VALUE};
    private static final int[] NO_MACHINES = {-1, -2, -32, -256, -65536, Integer.MIN_VALUE, Integer.MIN_VALUE + 1,
        2, 3, 4, 16, 32, 33, 64, 256, 257, 65536, 65537, Integer.MAX_VALUE};

    /**
     * Eight garments: 0 is lost, 1 and 2 are a pair in a bag, 3 to 7 fill the machine 1, and the
     * machine 0 is empty. A state is saved, a text failed, another was malformed, and there are
     * an output and the beginning of a text.
     */
    private static LaundryService busy() {
        LaundryService s = new LaundryService();
        Check.commands(s, "sock 0 1 0;load 0 0;run 0;sock 0 2 3;sock 0 2 8");
        s.bring(1, false, 0, 255);
        s.save();
        for (int i = 4; i < 8; i++) {
            s.bring(i % 4, true, i, 16);
        }
        s.setTemperature(1, 121);
        for (int i = 3; i < 8; i++) {
            s.load(i, 1);
        }
        commandsRefused(s, "run 1;run 0");
        commandsRefused(s, "out 1;x");
        s.writeBag(0);
        Check.feed(s, "out");
        return s;
    }

    private static LaundryService busyAndFull() {
        LaundryService s = busy();
        for (int i = 8; i < 16; i++) {
            s.bring(3, false, i % 8, i);
        }
        return s;
    }

    private static LaundryService allLost() {
        LaundryService s = new LaundryService();
        Check.commands(s, "sock 0 1 0;load 0 0;run 0");
        return s;
    }

    private static LaundryService fullInput() {
        LaundryService s = busy();
        Check.feed(s, "x".repeat(57));
        return s;
    }

    private static void commandsRefused(LaundryService s, String text) {
        try {
            Check.commands(s, text);
            Check.same("'" + text + "' is refused", false, true);
        } catch (IllegalArgumentException | UnsupportedOperationException e) {
            return;
        }
    }

    private static void refused(String what, Class<? extends RuntimeException> due,
            Supplier<LaundryService> maker, Consumer<LaundryService> call) {
        LaundryService s = maker.get();
        Check.refused(what, due, () -> call.accept(s));
        Check.same(what + " leaves the state", Look.trace(s), Look.trace(maker.get()));
    }

    private static void refused(String what, Class<? extends RuntimeException> due, Consumer<LaundryService> call) {
        refused(what, due, RefusalTest::busy, call);
    }

    private static void bring() {
        for (int client : NO_CLIENTS) {
            refused("2 no client " + client, INDEX, s -> s.bring(client, true, 1, 1));
        }
        int[] noColours = {-1, -8, -256, Integer.MIN_VALUE, 8, 9, 15, 16, 32, 256, 257, 65536, Integer.MAX_VALUE};
        for (int colour : noColours) {
            refused("2 no colour " + colour, ARGUMENT, s -> s.bring(0, true, colour, 1));
        }
        int[] noStains = {-1, -255, -256, Integer.MIN_VALUE, 256, 257, 511, 65536, 65537, Integer.MAX_VALUE};
        for (int stains : noStains) {
            refused("2 no stains " + stains, ARGUMENT, s -> s.bring(3, false, 7, stains));
        }
        refused("2 there are 16 garments", STATE, RefusalTest::busyAndFull, s -> s.bring(0, true, 1, 1));
        refused("2 there are 16 garments, the least one", STATE, RefusalTest::busyAndFull, s -> s.bring(0, false, 0, 0));
        refused("2 there are 16 garments, the greatest one", STATE, RefusalTest::busyAndFull,
                s -> s.bring(3, true, 7, 255));
    }

    /** "If several exceptions apply, the one listed first is thrown." */
    private static void bringListedFirst() {
        refused("2 client before colour", INDEX, s -> s.bring(4, true, 8, 1));
        refused("2 client before stains", INDEX, s -> s.bring(-1, true, 1, 256));
        refused("2 client before all", INDEX, RefusalTest::busyAndFull, s -> s.bring(4, true, -1, -1));
        refused("2 client before 16 garments", INDEX, RefusalTest::busyAndFull, s -> s.bring(-1, true, 1, 1));
        refused("2 colour before 16 garments", ARGUMENT, RefusalTest::busyAndFull, s -> s.bring(0, true, 8, 1));
        refused("2 stains before 16 garments", ARGUMENT, RefusalTest::busyAndFull, s -> s.bring(0, true, 1, -1));
    }

    private static void load() {
        for (int garment : NO_GARMENTS) {
            refused("3 no garment " + garment, INDEX, s -> s.load(garment, 0));
        }
        for (int machine : NO_MACHINES) {
            refused("3 no machine " + machine, INDEX, s -> s.load(1, machine));
        }
        refused("3 not in its bag but lost", UNSUPPORTED, s -> s.load(0, 0));
        refused("3 not in its bag but in the other machine", UNSUPPORTED, s -> s.load(3, 0));
        refused("3 the machine holds 5", STATE, s -> s.load(1, 1));
    }

    private static void loadListedFirst() {
        refused("3 garment before a full machine", INDEX, s -> s.load(8, 1));
        refused("3 garment and machine", INDEX, s -> s.load(-1, -1));
        refused("3 machine before lost", INDEX, s -> s.load(0, 2));
        refused("3 machine before loaded", INDEX, s -> s.load(3, -1));
        refused("3 lost before a full machine", UNSUPPORTED, s -> s.load(0, 1));
        refused("3 in this machine before it is full", UNSUPPORTED, s -> s.load(7, 1));
        refused("3 in the other machine before it is full", UNSUPPORTED, () -> {
            LaundryService s = busy();
            s.load(2, 0);
            return s;
        }, s -> s.load(2, 1));
    }

    private static void takeOut() {
        for (int garment : NO_GARMENTS) {
            refused("4 no garment " + garment, INDEX, s -> s.takeOut(garment));
        }
        refused("4 in its bag", UNSUPPORTED, s -> s.takeOut(1));
        refused("4 lost", UNSUPPORTED, s -> s.takeOut(0));
    }

    private static void setTemperature() {
        for (int machine : NO_MACHINES) {
            refused("5 no machine " + machine, INDEX, s -> s.setTemperature(machine, 100));
            refused("5 machine before the number " + machine, INDEX, s -> s.setTemperature(machine, 39));
        }
        int[] noHalves = {39, 181, 20, 0, -1, -40, -80, -180, 182, 256 + 80, 296, 65536 + 80, Integer.MIN_VALUE,
            Integer.MIN_VALUE + 80, Integer.MAX_VALUE};
        for (int halves : noHalves) {
            refused("5 no temperature " + halves, ARGUMENT, s -> s.setTemperature(0, halves));
            refused("5 no temperature of machine 1 " + halves, ARGUMENT, s -> s.setTemperature(1, halves));
        }
    }

    private static void run() {
        for (int machine : NO_MACHINES) {
            refused("6 no machine " + machine, INDEX, s -> s.run(machine));
        }
        refused("6 machine 0 is empty", STATE, s -> s.run(0));
        refused("6 machine 1 is empty", STATE, RefusalTest::allLost, s -> s.run(1));
        refused("6 machine 0 is empty again", STATE, RefusalTest::allLost, s -> s.run(0));
    }

    private static void questionsAboutGarments() {
        for (int garment : NO_GARMENTS) {
            refused("8 no garment " + garment, INDEX, s -> s.client(garment));
            refused("9 no garment " + garment, INDEX, s -> s.isSock(garment));
            refused("10 no garment " + garment, INDEX, s -> s.colour(garment));
            refused("11 no garment " + garment, INDEX, s -> s.stains(garment));
            refused("12 no garment " + garment, INDEX, s -> s.stainCount(garment));
            refused("13 no garment " + garment, INDEX, s -> s.place(garment));
            refused("14 no garment " + garment, INDEX, s -> s.washes(garment));
            refused("15 no garment " + garment, INDEX, s -> s.partner(garment));
            refused("32 no garment " + garment, INDEX, s -> s.packed(garment));
        }
    }

    /** No garment at all, and a garment that was undone. */
    private static void questionsAboutNoGarments() {
        Supplier<LaundryService> undone = () -> {
            LaundryService s = new LaundryService();
            s.bring(0, true, 1, 1);
            s.undo();
            return s;
        };
        refused("8 no garment at all", INDEX, LaundryService::new, s -> s.client(0));
        refused("8 an undone garment", INDEX, undone, s -> s.client(0));
        refused("9 no garment at all", INDEX, LaundryService::new, s -> s.isSock(0));
        refused("9 an undone garment", INDEX, undone, s -> s.isSock(0));
        refused("10 no garment at all", INDEX, LaundryService::new, s -> s.colour(0));
        refused("10 an undone garment", INDEX, undone, s -> s.colour(0));
        refused("11 no garment at all", INDEX, LaundryService::new, s -> s.stains(0));
        refused("11 an undone garment", INDEX, undone, s -> s.stains(0));
        refused("12 no garment at all", INDEX, LaundryService::new, s -> s.stainCount(0));
        refused("12 an undone garment", INDEX, undone, s -> s.stainCount(0));
        refused("13 no garment at all", INDEX, LaundryService::new, s -> s.place(0));
        refused("13 an undone garment", INDEX, undone, s -> s.place(0));
        refused("14 no garment at all", INDEX, LaundryService::new, s -> s.washes(0));
        refused("14 an undone garment", INDEX, undone, s -> s.washes(0));
        refused("15 no garment at all", INDEX, LaundryService::new, s -> s.partner(0));
        refused("15 an undone garment", INDEX, undone, s -> s.partner(0));
        refused("32 no garment at all", INDEX, LaundryService::new, s -> s.packed(0));
        refused("32 an undone garment", INDEX, undone, s -> s.packed(0));
        refused("3 no garment at all", INDEX, LaundryService::new, s -> s.load(0, 0));
        refused("3 an undone garment", INDEX, undone, s -> s.load(0, 0));
        refused("4 no garment at all", INDEX, LaundryService::new, s -> s.takeOut(0));
        refused("4 an undone garment", INDEX, undone, s -> s.takeOut(0));
    }

    private static void partner() {
        refused("15 not a sock", UNSUPPORTED, RefusalTest::busyAndFull, s -> s.partner(8));
        refused("15 not a sock, and in a machine", UNSUPPORTED, s -> s.partner(3));
        refused("15 a lost sock has no partner", NO_ELEMENT, s -> s.partner(0));
        refused("15 a sock in a machine has no partner", NO_ELEMENT, s -> s.partner(4));
        refused("15 its only fellow is in a machine", NO_ELEMENT, () -> {
            LaundryService s = busy();
            s.load(2, 0);
            return s;
        }, s -> s.partner(1));
        refused("15 the third of three socks", NO_ELEMENT, () -> {
            LaundryService s = busy();
            s.bring(0, true, 2, 3);
            return s;
        }, s -> s.partner(8));
    }

    private static void questionsAboutClients() {
        for (int client : NO_CLIENTS) {
            refused("16 no client " + client, INDEX, s -> s.pairCount(client));
            refused("17 no client " + client, INDEX, s -> s.pairCountByParity(client));
            refused("18 no client " + client, INDEX, s -> s.inBag(client));
            refused("29 no client " + client, INDEX, s -> s.price(1, client));
            refused("30 no client " + client, INDEX, s -> s.paid(client));
            refused("31 no client " + client, INDEX, s -> s.paidBits(client));
            refused("43 no client " + client, INDEX, s -> s.writeBag(client));
        }
    }

    private static void questionsAboutMachines() {
        for (int machine : NO_MACHINES) {
            refused("19 no machine " + machine, INDEX, s -> s.inMachine(machine));
            refused("21 no machine " + machine, INDEX, s -> s.temperature(machine));
            refused("22 no machine " + machine, INDEX, s -> s.temperatureBits(machine));
            refused("23 no machine " + machine, INDEX, s -> s.washableStains(machine));
            refused("24 no machine " + machine, INDEX, s -> s.commonStains(machine));
            refused("25 no machine " + machine, INDEX, s -> s.coloursIn(machine));
            refused("26 no machine " + machine, INDEX, s -> s.damage(machine));
            refused("27 no machine " + machine, INDEX, s -> s.damageByMasks(machine));
            refused("28 no machine " + machine, INDEX, s -> s.bestTemperature(machine));
            refused("29 no machine " + machine, INDEX, s -> s.price(machine, 0));
            refused("29 no machine and no client " + machine, INDEX, s -> s.price(machine, 4));
        }
        refused("28 machine 0 is empty", STATE, s -> s.bestTemperature(0));
        refused("28 machine 1 is empty", STATE, RefusalTest::allLost, s -> s.bestTemperature(1));
    }

    private static void ranks() {
        int[] noRanks = {-1, -2, -256, -65536, Integer.MIN_VALUE, 7, 8, 15, 16, 32, 256, 65536, Integer.MAX_VALUE};
        for (int rank : noRanks) {
            refused("34 no rank " + rank, NO_ELEMENT, s -> s.dirtiest(rank));
        }
        refused("34 no garments", NO_ELEMENT, LaundryService::new, s -> s.dirtiest(0));
        refused("34 no garment that is not lost", NO_ELEMENT, RefusalTest::allLost, s -> s.dirtiest(0));
        for (int rank : NO_CLIENTS) {
            refused("35 no rank " + rank, NO_ELEMENT, s -> s.spender(rank));
        }
    }

    private static void shares() {
        refused("36 no garments", ARITHMETIC, LaundryService::new, s -> s.meanStains());
        refused("36 no garment that is not lost", ARITHMETIC, RefusalTest::allLost, s -> s.meanStains());
        refused("37 no garments", ARITHMETIC, LaundryService::new, s -> s.lostShare());
    }

    private static void texts() {
        refused("39 the input holds 60 characters", STATE, RefusalTest::fullInput, s -> s.feed('x'));
        refused("39 the input holds 60 characters, a semicolon", STATE, RefusalTest::fullInput, s -> s.feed(';'));
        refused("41 no text was malformed", NO_ELEMENT, LaundryService::new, s -> s.errorPosition());
        refused("42 no command failed", NO_ELEMENT, LaundryService::new, s -> s.failedCommand());
        refused("41 a text was carried out", NO_ELEMENT, RefusalTest::allLost, s -> s.errorPosition());
        refused("42 a text was carried out", NO_ELEMENT, RefusalTest::allLost, s -> s.failedCommand());
        refused("41 a command failed", NO_ELEMENT, () -> {
            LaundryService s = new LaundryService();
            commandsRefused(s, "run 0");
            return s;
        }, s -> s.errorPosition());
        refused("42 a text was malformed", NO_ELEMENT, () -> {
            LaundryService s = new LaundryService();
            commandsRefused(s, "run");
            return s;
        }, s -> s.failedCommand());
    }

    private static void outputChar() {
        Check.same("44 the output", Look.output(busy()), "s2** s2*");
        int[] noIndices = {-1, -2, -8, -256, -65536, Integer.MIN_VALUE, 8, 9, 16, 176, 177, 256, 65536,
            Integer.MAX_VALUE};
        for (int index : noIndices) {
            refused("44 no index " + index, INDEX, s -> s.outputChar(index));
        }
        refused("44 initially empty", INDEX, LaundryService::new, s -> s.outputChar(0));
        refused("44 empty again", INDEX, () -> {
            LaundryService s = busy();
            s.writeBag(1);
            return s;
        }, s -> s.outputChar(0));
    }

    private static void undoAndRestore() {
        refused("46 nothing was called", STATE, LaundryService::new, s -> s.undo());
        refused("46 all is undone", STATE, () -> {
            LaundryService s = busy();
            while (s.undoCount() > 0) {
                s.undo();
            }
            return s;
        }, s -> s.undo());
        refused("46 restored", STATE, () -> {
            LaundryService s = busy();
            s.restore();
            return s;
        }, s -> s.undo());
        refused("48 nothing was saved", STATE, LaundryService::new, s -> s.restore());
        refused("48 nothing was saved after calls", STATE, RefusalTest::allLost, s -> s.restore());
    }

    public static void main(String[] args) {
        bring();
        bringListedFirst();
        load();
        loadListedFirst();
        takeOut();
        setTemperature();
        run();
        questionsAboutGarments();
        questionsAboutNoGarments();
        partner();
        questionsAboutClients();
        questionsAboutMachines();
        ranks();
        shares();
        texts();
        outputChar();
        undoAndRestore();
        Check.end();
    }
}
