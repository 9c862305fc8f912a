import java.util.NoSuchElementException;

/** What can be seen of an object, as a text. */
final class Look {
    private interface Question {
        Object ask();
    }

    private Look() {
    }

    /** All that undo and restore bring back. */
    static String state(LaundryService s) {
        StringBuilder text = new StringBuilder();
        int count = s.garmentCount();
        for (int garment = 0; garment < count; garment++) {
            text.append(s.packed(garment)).append(' ');
        }
        for (int machine = 0; machine < 2; machine++) {
            text.append(s.temperature(machine)).append(' ');
        }
        for (int client = 0; client < 4; client++) {
            text.append(s.paid(client)).append(' ');
        }
        return text.append(s.runCount()).toString();
    }

    /** The state, the number of calls to undo, what is kept of earlier texts, and the output. */
    static String all(LaundryService s) {
        return state(s) + " undo " + s.undoCount() + " error " + orNone(s::errorPosition)
                + " failed " + orNone(s::failedCommand) + " output " + output(s);
    }

    /**
     * All that can be seen, at once and after each undo, then the saved state, then the length of
     * the input: so two objects with the same trace hold the same. The object is used up by it.
     */
    static String trace(LaundryService s) {
        StringBuilder text = new StringBuilder(all(s));
        while (s.undoCount() > 0) {
            text.append("\nundone: ").append(s.undo()).append(' ').append(state(s));
        }
        try {
            text.append("\nrestored: ").append(s.restore()).append(' ').append(state(s));
        } catch (IllegalStateException e) {
            text.append("\nnothing saved");
        }
        try {
            text.append("\ninput: ").append(s.feed('r'));
        } catch (IllegalStateException e) {
            text.append("\ninput: full");
        }
        return text.toString();
    }

    static String output(LaundryService s) {
        StringBuilder text = new StringBuilder();
        try {
            for (int i = 0; i < 200; i++) {
                text.append(s.outputChar(i));
            }
        } catch (IndexOutOfBoundsException e) {
            return text.toString();
        }
        return "an output without an end";
    }

    private static Object orNone(Question question) {
        try {
            return question.ask();
        } catch (NoSuchElementException e) {
            return "none";
        }
    }
}
