/** Holds answers against those that are due, prints each that is not, and ends the test. */
final class Due {
    interface Call {
        void make();
    }

    private final Document document = Document.read();
    private String promise = "";
    private int asked;
    private int wrong;

    void promise(String name) {
        promise = name;
    }

    /** Begins the test of a sentence, or of some that say one thing, each quoted word by word. */
    void sentence(String section, String... quotes) {
        promise = section + ", '" + quotes[0] + "'";
        for (String quote : quotes) {
            asked++;
            if (!document.quote(section, quote)) {
                wrong("the document has no '" + quote + "' there");
            }
        }
    }

    /** Every word of these sections is due to have been quoted by a test. */
    void allQuoted(String... sections) {
        for (String section : sections) {
            promise = section;
            asked++;
            for (String part : document.unquoted(section)) {
                wrong("no test has quoted '" + part + "'");
            }
        }
    }

    void is(String what, long got, long want) {
        asked++;
        if (got != want) {
            wrong(what + " answered " + got + ", due is " + want);
        }
    }

    void same(String what, String got, String want) {
        asked++;
        if (!got.equals(want)) {
            wrong(what + ": " + got + ", due is " + want);
        }
    }

    void yes(String what, boolean got) {
        is(what, got ? 1 : 0, 1);
    }

    void no(String what, boolean got) {
        is(what, got ? 1 : 0, 0);
    }

    void outOfBounds(String what, Call call) {
        fails(what, IndexOutOfBoundsException.class, call);
    }

    void badArgument(String what, Call call) {
        fails(what, IllegalArgumentException.class, call);
    }

    void badState(String what, Call call) {
        fails(what, IllegalStateException.class, call);
    }

    /** The very class is due: one below it would be the machine's own. */
    void fails(String what, Class<? extends RuntimeException> want, Call call) {
        asked++;
        try {
            call.make();
        } catch (RuntimeException e) {
            if (e.getClass() != want) {
                wrong(what + " threw " + e + ", due is " + want.getName());
            }
            return;
        }
        wrong(what + " threw nothing, due is " + want.getName());
    }

    private void wrong(String line) {
        wrong++;
        System.out.println(promise + ": " + line);
    }

    void end() {
        System.out.println(asked + " answers, " + wrong + " not as due");
        if (wrong != 0 || asked == 0) {
            System.exit(1);
        }
    }
}
