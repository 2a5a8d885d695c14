/** What tests share: it counts answers that are not due, and ends a test with exit code 1 if there was one. */
final class Due {
    interface Call {
        Object answer();
    }

    private static int asked = 0;
    private static int wrong = 0;

    private Due() {
    }

    static void is(String what, Object want, Call call) {
        Object got;
        try {
            got = call.answer();
        } catch (RuntimeException e) {
            got = e.getClass().getName();
        }
        tell(what, want, got);
    }

    static void fails(String what, Class<? extends RuntimeException> want, Call call) {
        Object got;
        try {
            got = call.answer();
        } catch (RuntimeException e) {
            got = e.getClass().getName();
        }
        tell(what, want.getName(), got);
    }

    /** Expects IllegalArgumentException. */
    static void isIllegal(String what, Call call) {
        fails(what, IllegalArgumentException.class, call);
    }

    /** Expects IndexOutOfBoundsException. */
    static void isOutside(String what, Call call) {
        fails(what, IndexOutOfBoundsException.class, call);
    }

    /** Expects IllegalStateException. */
    static void isUntimely(String what, Call call) {
        fails(what, IllegalStateException.class, call);
    }

    /** Expects UnsupportedOperationException. */
    static void isUnsupported(String what, Call call) {
        fails(what, UnsupportedOperationException.class, call);
    }

    /** Expects NoSuchElementException. */
    static void isMissing(String what, Call call) {
        fails(what, java.util.NoSuchElementException.class, call);
    }

    private static void tell(String what, Object want, Object got) {
        asked++;
        if (!want.equals(got)) {
            wrong++;
            System.out.println(what + " answered " + got + ", due is " + want);
        }
    }

    static void end() {
        System.out.println(asked + " asked, " + wrong + " not as due");
        if (wrong != 0 || asked == 0) {
            System.exit(1);
        }
    }

    /** Notes what is told as in the document: 10 times the figure, plus 5, plus the register; 0 is a rest. */
    static void note(GongCircle x, int... told) {
        for (int one : told) {
            if (one == 0) {
                x.addNote(0, 0);
            } else {
                x.addNote(one / 10, one % 10 - 5);
            }
        }
    }

    /** Adds a tune of what is told, over and over until it has so many beats. */
    static int tune(GongCircle x, char form, char tuning, int beats, int... told) {
        x.clearNotes();
        for (int i = 0; i < beats; i++) {
            note(x, told[i % told.length]);
        }
        return x.addTune(form, tuning);
    }
}
