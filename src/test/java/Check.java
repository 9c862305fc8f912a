/** Compares answers with what is due, prints each that differs, and ends the test with 1 if one did. */
final class Check {
    interface Call {
        void make();
    }

    private static int made = 0;
    private static int wrong = 0;

    private Check() {
    }

    static void same(String what, Object got, Object due) {
        made++;
        if (!got.equals(due)) {
            wrong++;
            System.out.println(what + " answered " + got + ", due is " + due);
        }
    }

    /** The exception must be of the very class: one that the machine throws is of a class below. */
    static void refused(String what, Class<? extends RuntimeException> due, Call call) {
        made++;
        Object got = "nothing";
        try {
            call.make();
        } catch (RuntimeException e) {
            got = e.getClass();
        }
        if (got != due) {
            wrong++;
            System.out.println(what + " threw " + got + ", due is " + due);
        }
    }

    static void noIndex(String what, Call call) {
        refused(what, IndexOutOfBoundsException.class, call);
    }

    static void badArgument(String what, Call call) {
        refused(what, IllegalArgumentException.class, call);
    }

    static void badState(String what, Call call) {
        refused(what, IllegalStateException.class, call);
    }

    static void unsupported(String what, Call call) {
        refused(what, UnsupportedOperationException.class, call);
    }

    static void noElement(String what, Call call) {
        refused(what, java.util.NoSuchElementException.class, call);
    }

    static void noArithmetic(String what, Call call) {
        refused(what, ArithmeticException.class, call);
    }

    static int feed(LaundryService service, String text) {
        int length = 0;
        for (int i = 0; i < text.length(); i++) {
            length = service.feed(text.charAt(i));
        }
        return length;
    }

    static int commands(LaundryService service, String text) {
        feed(service, text);
        return service.runCommands();
    }

    static String output(LaundryService service, int length) {
        StringBuilder text = new StringBuilder();
        for (int i = 0; i < length; i++) {
            text.append(service.outputChar(i));
        }
        return text.toString();
    }

    static void end() {
        System.out.println(made + " checks, " + wrong + " wrong");
        if (wrong > 0 || made == 0) {
            System.exit(1);
        }
    }
}
