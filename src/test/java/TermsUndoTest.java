import java.util.function.Consumer;

/** The boundaries that the document's "Terms" name under Undo, and its promises 45 to 48. */
public final class TermsUndoTest {
    /** Garment 0 in its bag, garment 1 in the machine 1, garment 2 lost, and no call to undo. */
    private static LaundryService prepared() {
        LaundryService s = new LaundryService();
        s.bring(0, true, 1, 5);
        s.bring(1, false, 0, 255);
        s.bring(2, true, 2, 0);
        s.load(2, 0);
        s.run(0);
        s.load(1, 1);
        s.save();
        s.restore();
        return s;
    }

    /** Before and after the call, and after it is undone. */
    private static void recorded(String what, Consumer<LaundryService> call, boolean changes) {
        LaundryService s = prepared();
        String before = Look.state(s);
        Check.same("45 none before " + what, s.undoCount(), 0);
        call.accept(s);
        Check.same("45 one after " + what, s.undoCount(), 1);
        Check.same("45 changed by " + what, !Look.state(s).equals(before), changes);
        Check.same("46 none after undoing " + what, s.undo(), 0);
        Check.same("46 as before " + what, Look.state(s), before);
        Check.badState("46 no more than " + what, () -> s.undo());
    }

    /** "The methods bring, load, takeOut, setTemperature, run and runCommands are recorded ..." */
    private static void whatIsRecorded() {
        recorded("bring", s -> s.bring(3, true, 7, 255), true);
        recorded("load", s -> s.load(0, 1), true);
        recorded("takeOut", s -> s.takeOut(1), true);
        recorded("setTemperature", s -> s.setTemperature(0, 81), true);
        recorded("run", s -> s.run(1), true);
        recorded("runCommands", s -> Check.commands(s, "sock 3 7 255;heat 1 90;load 0 1;run 1"), true);
    }

    /** "... even if nothing changes." */
    private static void recordedEvenIfNothingChanges() {
        recorded("setTemperature to the same", s -> s.setTemperature(0, 80), false);
        recorded("a text that sets the same", s -> Check.commands(s, "heat 1 40"), false);
        recorded("a text that loads and takes out", s -> Check.commands(s, "load 0 0;out 0"), false);
        LaundryService s = prepared();
        for (int call = 1; call <= 9; call++) {
            s.setTemperature(1, 80);
            Check.same("45 the same temperature " + call + " times", s.undoCount(), Math.min(call, 8));
        }
    }

    private static void notRecorded(String what, Consumer<LaundryService> call) {
        LaundryService s = prepared();
        s.bring(0, false, 1, 1);
        call.accept(s);
        Check.same("45 not recorded: " + what, s.undoCount(), 1);
        Check.same("46 the call before: " + what, s.undo(), 0);
        Check.same("46 the garment is gone: " + what, s.garmentCount(), 3);
    }

    /** Only the six methods are recorded: no question, no feed, writeBag or save. */
    private static void whatIsNotRecorded() {
        notRecorded("feed", s -> s.feed('r'));
        notRecorded("writeBag", s -> s.writeBag(0));
        notRecorded("save", s -> s.save());
        notRecorded("damage", s -> s.damage(1));
        notRecorded("damageByMasks", s -> s.damageByMasks(1));
        notRecorded("bestTemperature", s -> s.bestTemperature(1));
        notRecorded("isConsistent", s -> s.isConsistent());
        notRecorded("price", s -> s.price(1, 1));
        notRecorded("pairCount", s -> s.pairCount(0));
        notRecorded("undoCount", s -> s.undoCount());
        LaundryService s = prepared();
        s.bring(0, false, 1, 1);
        s.bring(0, false, 1, 1);
        s.undo();
        Check.same("45 undo is not recorded", s.undoCount(), 1);
    }

    /** "... are recorded when they return normally": a call that throws is not. */
    private static void refusedCallsAreNotRecorded() {
        notRecorded("bring", s -> Check.noIndex("2 client", () -> s.bring(4, true, 1, 1)));
        notRecorded("load", s -> Check.unsupported("3 loaded", () -> s.load(1, 0)));
        notRecorded("takeOut", s -> Check.unsupported("4 in its bag", () -> s.takeOut(0)));
        notRecorded("setTemperature", s -> Check.badArgument("5 too hot", () -> s.setTemperature(0, 181)));
        notRecorded("run", s -> Check.badState("6 empty", () -> s.run(0)));
        notRecorded("a malformed text", s -> {
            Check.feed(s, "heat 0 50;");
            Check.badArgument("40 malformed", () -> s.runCommands());
        });
        notRecorded("a failing text", s -> {
            Check.feed(s, "heat 0 50;run 0");
            Check.unsupported("40 failing", () -> s.runCommands());
        });
        notRecorded("an empty text", s -> Check.badArgument("40 empty", () -> s.runCommands()));
    }

    /** "At most the 8 latest calls can be undone", after 0 to 40 calls. */
    private static void theEightLatestCalls() {
        for (int calls = 0; calls <= 40; calls++) {
            LaundryService s = new LaundryService();
            for (int i = 1; i <= calls; i++) {
                s.setTemperature(0, 40 + i);
                Check.same("45 after " + i + " calls", s.undoCount(), Math.min(i, 8));
            }
            for (int left = Math.min(calls, 8) - 1; left >= 0; left--) {
                Check.same("46 left of " + calls, s.undo(), left);
                int at = calls - Math.min(calls, 8) + left;
                Check.same("46 the state after call " + at, s.temperature(0), at == 0 ? 40f : (40 + at) / 2f);
            }
            Check.badState("46 no more than 8 of " + calls, () -> s.undo());
            Check.same("45 none left of " + calls, s.undoCount(), 0);
        }
    }

    /** The same with calls after an undo: what was undone comes back by no call. */
    private static void callsAfterAnUndo() {
        for (int calls = 0; calls <= 18; calls++) {
            for (int undone = 0; undone <= Math.min(calls, 8); undone++) {
                for (int more = 0; more <= 9; more++) {
                    callsAfterAnUndo(calls, undone, more);
                }
            }
        }
    }

    private static void callsAfterAnUndo(int calls, int undone, int more) {
        String what = calls + " calls, " + undone + " undone, " + more + " more";
        LaundryService s = new LaundryService();
        int[] due = new int[40];
        int at = 0;
        due[0] = 80;
        for (int i = 1; i <= calls; i++) {
            due[++at] = 40 + i;
            s.setTemperature(1, due[at]);
        }
        for (int i = 0; i < undone; i++) {
            s.undo();
            at--;
        }
        int left = Math.min(Math.min(calls, 8) - undone + more, 8);
        for (int i = 1; i <= more; i++) {
            due[++at] = 100 + i;
            s.setTemperature(1, due[at]);
        }
        Check.same("45 " + what, s.undoCount(), left);
        while (left > 0) {
            left--;
            at--;
            Check.same("46 left of " + what, s.undo(), left);
            Check.same("46 state of " + what, s.temperature(1), due[at] / 2f);
        }
        Check.badState("46 no more of " + what, () -> s.undo());
    }

    /** A failing text is no call to undo, at each place of a history that is full or not. */
    private static void failingTextsLeaveTheHistory() {
        for (int calls = 0; calls <= 20; calls++) {
            LaundryService s = new LaundryService();
            for (int i = 1; i <= calls; i++) {
                s.setTemperature(0, 40 + i);
                Check.feed(s, "heat 0 90;run 0");
                Check.unsupported("40 failing", () -> s.runCommands());
            }
            for (int left = Math.min(calls, 8) - 1; left >= 0; left--) {
                Check.same("46 left of " + calls + " with texts", s.undo(), left);
                int at = calls - Math.min(calls, 8) + left;
                Check.same("46 state of " + calls + " with texts", s.temperature(0), at == 0 ? 40f : (40 + at) / 2f);
            }
            Check.badState("46 no more of " + calls + " with texts", () -> s.undo());
        }
    }

    /** "The input buffer ... not part of the undone or saved state." */
    private static void theInputIsKept() {
        LaundryService s = prepared();
        s.save();
        s.setTemperature(0, 100);
        Check.feed(s, "heat 1 3");
        s.undo();
        Check.same("39 after undo", s.feed('0'), 9);
        s.restore();
        Check.same("40 after restore", s.runCommands(), 1);
        Check.same("40 the whole text", s.temperature(1), 30f);
        s.undo();
        Check.same("39 a text that was carried out does not come back", s.feed('x'), 1);
    }

    /** "... the output ... not part of the undone or saved state." */
    private static void theOutputIsKept() {
        LaundryService s = prepared();
        s.save();
        s.bring(3, true, 6, 3);
        s.writeBag(3);
        s.undo();
        Check.same("44 after undo", Look.output(s), "s6**");
        s.restore();
        Check.same("44 after restore", Look.output(s), "s6**");
        s.writeBag(0);
        s.restore();
        Check.same("44 the later one", Look.output(s), "s1**");
    }

    /** "... the error position ... not part of the undone or saved state." */
    private static void theErrorPositionIsKept() {
        LaundryService s = prepared();
        s.setTemperature(0, 100);
        s.save();
        Check.feed(s, "runs");
        Check.badArgument("40 malformed", () -> s.runCommands());
        s.undo();
        Check.same("41 after undo", s.errorPosition(), 3);
        s.restore();
        Check.same("41 after restore", s.errorPosition(), 3);
    }

    /** "... and the failed command are not part of the undone or saved state." */
    private static void theFailedCommandIsKept() {
        LaundryService s = prepared();
        s.setTemperature(0, 100);
        s.save();
        Check.feed(s, "heat 0 30;run 0");
        Check.unsupported("40 failing", () -> s.runCommands());
        s.undo();
        Check.same("42 after undo", s.failedCommand(), 1);
        s.restore();
        Check.same("42 after restore", s.failedCommand(), 1);
    }

    /** Promise 45: "Returns the number, 0 to 8." */
    private static void undoCountFromZeroToEight() {
        LaundryService s = new LaundryService();
        Check.same("45 initially", s.undoCount(), 0);
        for (int i = 1; i <= 8; i++) {
            s.bring(0, false, 0, 0);
            Check.same("45 after " + i, s.undoCount(), i);
        }
        s.bring(0, false, 0, 0);
        Check.same("45 never nine", s.undoCount(), 8);
    }

    /** Promise 46: "Undoes the latest recorded call", each kind, in a full history. */
    private static void undoInAFullService() {
        LaundryService s = new LaundryService();
        for (int i = 0; i < 16; i++) {
            s.bring(i % 4, true, i % 8, i);
        }
        String sixteen = Look.state(s);
        s.load(15, 0);
        s.run(0);
        Check.same("46 undo run", s.undo(), 7);
        Check.same("46 loaded again", s.place(15), '0');
        Check.same("46 not washed", s.packed(15), 15L | 7L << 8 | 3L << 11 | 1L << 13 | 1L << 14);
        Check.same("46 not paid", s.paid(3), 0f);
        Check.same("46 no run", s.runCount(), 0);
        Check.same("46 undo load", s.undo(), 6);
        Check.same("46 sixteen garments", Look.state(s), sixteen);
        Check.same("46 undo bring", s.undo(), 5);
        Check.same("46 fifteen garments", s.garmentCount(), 15);
    }

    /** A lost sock comes back when the run is undone. */
    private static void undoOfALoss() {
        LaundryService s = new LaundryService();
        s.bring(0, true, 1, 15);
        s.load(0, 1);
        s.run(1);
        Check.same("20 lost", s.lost(), 1);
        s.undo();
        Check.same("46 no longer lost", s.lost(), 0);
        Check.same("46 in its machine", s.inMachine(1), 1);
        Check.same("46 its stains", s.stains(0), 15);
        Check.same("46 its runs", s.washes(0), 0);
    }

    /** Promise 47: "Returns the number of garments": 0 and 16. */
    private static void saveOfNoneAndSixteen() {
        LaundryService s = new LaundryService();
        Check.same("47 none", s.save(), 0);
        for (int i = 0; i < 16; i++) {
            s.bring(0, true, 1, i);
        }
        Check.same("48 none", s.restore(), 0);
        Check.same("7 none", s.garmentCount(), 0);
        for (int i = 0; i < 16; i++) {
            s.bring(3, false, 7, 240 + i);
        }
        Check.same("47 sixteen", s.save(), 16);
        String sixteen = Look.state(s);
        for (int i = 0; i < 8; i++) {
            s.undo();
        }
        s.load(0, 1);
        Check.same("48 sixteen", s.restore(), 16);
        Check.same("48 all sixteen", Look.state(s), sixteen);
    }

    /** Promise 47: "An earlier saved state is replaced." */
    private static void anEarlierSavedStateIsReplaced() {
        LaundryService s = prepared();
        s.save();
        s.setTemperature(0, 179);
        s.run(1);
        s.save();
        String later = Look.state(s);
        s.undo();
        s.undo();
        s.bring(0, true, 0, 0);
        s.restore();
        Check.same("48 the later saved state", Look.state(s), later);
        Check.same("48 its garments", s.garmentCount(), 3);
    }

    /** Promise 47: "Saves all garments, machines, prices and the number of runs", of each one. */
    private static void allIsSaved() {
        LaundryService s = prepared();
        s.setTemperature(1, 101);
        s.run(1);
        s.load(0, 1);
        s.save();
        String saved = Look.state(s);
        s.takeOut(0);
        s.load(1, 0);
        s.setTemperature(0, 180);
        s.setTemperature(1, 40);
        s.run(0);
        s.bring(3, true, 3, 3);
        s.load(3, 0);
        s.run(0);
        s.restore();
        Check.same("48 all as it was saved", Look.state(s), saved);
        Check.same("48 garment 0", s.place(0), '1');
        Check.same("48 garment 1", s.stains(1), 192);
        Check.same("48 the lost one", s.lost(), 4);
        Check.same("48 the machine 0", s.temperature(0), 40f);
        Check.same("48 the machine 1", s.temperature(1), 50.5f);
        Check.same("48 paid by 1", s.paid(1), 1.25f + 50.5f * 0.125f);
        Check.same("48 paid by 3", s.paid(3), 0f);
        Check.same("48 the runs", s.runCount(), 2);
    }

    /** Promise 48: "The saved state is kept": what follows a restore does not change it. */
    private static void theSavedStateIsKept() {
        LaundryService s = prepared();
        String saved = Look.state(s);
        for (int time = 0; time < 3; time++) {
            s.restore();
            Check.same("48 restored " + time, Look.state(s), saved);
            s.setTemperature(0, 60 + time);
            s.run(1);
            s.load(0, 0);
            s.bring(1, true, 5, 5);
            s.run(0);
            s.undo();
        }
    }

    /** Promise 48: "... and no call can be undone afterwards." */
    private static void noCallCanBeUndoneAfterwards() {
        LaundryService s = prepared();
        for (int i = 0; i < 10; i++) {
            s.setTemperature(0, 50 + i);
        }
        s.restore();
        Check.same("45 after restore", s.undoCount(), 0);
        Check.badState("46 after restore", () -> s.undo());
        s.setTemperature(0, 100);
        Check.same("45 one call after restore", s.undoCount(), 1);
        Check.same("46 the call after restore", s.undo(), 0);
        Check.same("46 as it was restored", s.temperature(0), 40f);
        Check.badState("46 not beyond restore", () -> s.undo());
    }

    /** "A method that throws ... leaves the state unchanged": a restore without a saved state. */
    private static void aRefusedRestoreLeavesTheCalls() {
        LaundryService s = new LaundryService();
        s.setTemperature(0, 100);
        Check.badState("48 nothing saved", () -> s.restore());
        Check.same("45 still one", s.undoCount(), 1);
        Check.same("21 still hot", s.temperature(0), 50f);
        Check.same("46 undone", s.undo(), 0);
        Check.badState("46 nothing left", () -> s.undo());
        Check.badState("48 an undo saves nothing", () -> s.restore());
    }

    /** The saved state is no call: undo neither brings one back nor takes one away. */
    private static void undoLeavesTheSavedState() {
        LaundryService s = new LaundryService();
        s.bring(0, true, 1, 1);
        s.save();
        s.undo();
        Check.same("7 undone", s.garmentCount(), 0);
        Check.same("48 saved before the undo", s.restore(), 1);
        Check.same("11 its stains", s.stains(0), 1);
    }

    public static void main(String[] args) {
        whatIsRecorded();
        recordedEvenIfNothingChanges();
        whatIsNotRecorded();
        refusedCallsAreNotRecorded();
        theEightLatestCalls();
        callsAfterAnUndo();
        failingTextsLeaveTheHistory();
        theInputIsKept();
        theOutputIsKept();
        theErrorPositionIsKept();
        theFailedCommandIsKept();
        undoCountFromZeroToEight();
        undoInAFullService();
        undoOfALoss();
        saveOfNoneAndSixteen();
        anEarlierSavedStateIsReplaced();
        allIsSaved();
        theSavedStateIsKept();
        noCallCanBeUndoneAfterwards();
        aRefusedRestoreLeavesTheCalls();
        undoLeavesTheSavedState();
        Check.end();
    }
}
