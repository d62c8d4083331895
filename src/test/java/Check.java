/** Compares answers with those that are due, and ends a test with exit code 1 if one differs. */
final class Check {
    interface Call {
        long answer();
    }

    static final Class<? extends RuntimeException> INDEX = IndexOutOfBoundsException.class;
    static final Class<? extends RuntimeException> ARGUMENT = IllegalArgumentException.class;
    static final Class<? extends RuntimeException> STATE = IllegalStateException.class;

    private int looked = 0;
    private int wrong = 0;

    void same(String what, long got, long due) {
        looked++;
        if (got != due) {
            wrong++;
            System.out.println(what + " answered " + got + ", due is " + due);
        }
    }

    void refused(String what, Class<? extends RuntimeException> due, Call call) {
        looked++;
        String got;
        try {
            got = "answered " + call.answer();
        } catch (RuntimeException e) {
            if (e.getClass() == due) {
                return;
            }
            got = "threw " + e.getClass().getSimpleName();
        }
        wrong++;
        System.out.println(what + " " + got + ", due is " + due.getSimpleName());
    }

    void fault(String what) {
        wrong++;
        System.out.println(what);
    }

    int wrong() {
        return wrong;
    }

    void end() {
        System.out.println(looked + " looked at, " + wrong + " not as due");
        if (wrong != 0) {
            System.exit(1);
        }
    }

    /** Puts a text in the place of the one in the buffer. */
    static void write(ChairStamps x, String text) {
        x.clearText();
        for (int i = 0; i < text.length(); i++) {
            x.append(text.charAt(i));
        }
    }

    static ChairStamps loaded(String text) {
        ChairStamps x = new ChairStamps();
        write(x, text);
        x.load();
        return x;
    }

    /** Everything that can be asked of the state, as a text. */
    static String all(ChairStamps x) {
        StringBuilder out = new StringBuilder();
        for (int i = 0; i <= 10; i++) {
            out.append(' ').append(x.about(i));
        }
        for (int c = 0; c < x.about(0); c++) {
            out.append(" / chair");
            for (int i = 0; i <= 8; i++) {
                out.append(' ').append(x.chairOf(c, i));
            }
            for (int k = 0; k < 4; k++) {
                out.append(' ').append(x.legOf(c, k, 0));
            }
        }
        for (int f = 0; f < x.about(1); f++) {
            out.append(" / floor");
            for (int k = 0; k < 4; k++) {
                out.append(' ').append(x.spot(f, k));
            }
        }
        out.append(" / bounds");
        for (int i = 0; i < 16; i++) {
            out.append(' ').append(x.boundOf(i / 4, i % 4));
        }
        return out.append(" / settings ").append(x.setting(0)).append(' ').append(x.setting(1)).toString();
    }

    void sameState(String what, ChairStamps got, String due) {
        looked++;
        if (!all(got).equals(due)) {
            wrong++;
            System.out.println(what + ": the state is\n  " + all(got) + "\ndue is\n  " + due);
        }
    }
}
