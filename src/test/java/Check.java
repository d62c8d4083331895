/** Compares answers with those that are due, and ends a test with exit code 1 if one differs. */
final class Check {
    interface Call {
        long answer();
    }

    interface Make {
        ChairStamps office();
    }

    interface Use {
        long on(ChairStamps x);
    }

    interface UseOf {
        long on(ChairStamps x, int v);
    }

    static final Class<? extends RuntimeException> INDEX = IndexOutOfBoundsException.class;
    static final Class<? extends RuntimeException> ARGUMENT = IllegalArgumentException.class;
    static final Class<? extends RuntimeException> STATE = IllegalStateException.class;

    private int looked = 0;
    private int wrong = 0;
    private String heading = "";

    /** What is wrong from here on is told with these words before it. */
    void heading(String words) {
        heading = words.isEmpty() ? "" : words + ": ";
    }

    void same(String what, long got, long due) {
        looked++;
        if (got != due) {
            fault(what + " answered " + got + ", due is " + due);
        }
    }

    void same(String what, String got, String due) {
        looked++;
        if (!got.equals(due)) {
            fault(what + "\n  " + got + "\ndue is\n  " + due);
        }
    }

    void refused(String what, Class<? extends RuntimeException> due, Call call) {
        looked++;
        String got;
        try {
            got = "answered " + call.answer();
        } catch (RuntimeException e) {
            if (e.getClass() == due) {
                return;
            }
            got = "threw " + e.getClass().getSimpleName();
        }
        fault(what + " " + got + ", due is " + due.getSimpleName());
    }

    /** The call throws what is due, and leaves the state, what is remembered, the slots and the text. */
    void refusedLeaving(String what, Class<? extends RuntimeException> due, Make make, Use call) {
        leaving(what, make, x -> refused(what, due, () -> call.on(x)));
    }

    /** The call leaves all as it is, whatever it answers. */
    void changesNothing(String what, Make make, Use call) {
        leaving(what, make, x -> call.on(x));
    }

    private void leaving(String what, Make make, java.util.function.Consumer<ChairStamps> call) {
        for (int way = 0; way < Looks.WAYS; way++) {
            ChairStamps x = make.office();
            call.accept(x);
            same(what + " has changed something", Looks.look(x, way), Looks.look(make.office(), way));
        }
    }

    /** The least and the most value are taken; those beside them are refused and change nothing. */
    void range(Class<? extends RuntimeException> due, Make make, int least, int most, UseOf call) {
        for (int v : new int[] {least, most}) {
            taken("the value " + v, () -> call.on(make.office(), v));
        }
        for (int v : new int[] {least - 1, most + 1, Integer.MIN_VALUE, Integer.MAX_VALUE}) {
            refusedLeaving("the value " + v, due, make, x -> call.on(x, v));
        }
    }

    void taken(String what, Call call) {
        looked++;
        try {
            call.answer();
        } catch (RuntimeException e) {
            fault(what + " threw " + e.getClass().getSimpleName());
        }
    }

    void fault(String what) {
        wrong++;
        System.out.println(heading + what);
    }

    int wrong() {
        return wrong;
    }

    void end() {
        System.out.println(looked + " looked at, " + wrong + " not as due");
        if (wrong != 0) {
            System.exit(1);
        }
    }

    /** Puts a text in the place of the one in the buffer. */
    static void write(ChairStamps x, String text) {
        x.clearText();
        for (int i = 0; i < text.length(); i++) {
            x.append(text.charAt(i));
        }
    }

    static ChairStamps loaded(String text) {
        ChairStamps x = new ChairStamps();
        write(x, text);
        x.load();
        return x;
    }

    /** Everything that can be asked of the state, as a text. */
    static String all(ChairStamps x) {
        StringBuilder out = new StringBuilder();
        for (int i = 0; i <= 10; i++) {
            out.append(' ').append(x.about(i));
        }
        for (int c = 0; c < x.about(0); c++) {
            out.append(" / chair");
            for (int i = 0; i <= 8; i++) {
                out.append(' ').append(x.chairOf(c, i));
            }
            for (int k = 0; k < 4; k++) {
                out.append(' ').append(x.legOf(c, k, 0));
            }
        }
        for (int f = 0; f < x.about(1); f++) {
            out.append(" / floor");
            for (int k = 0; k < 4; k++) {
                out.append(' ').append(x.spot(f, k));
            }
        }
        out.append(" / bounds");
        for (int i = 0; i < 16; i++) {
            out.append(' ').append(x.boundOf(i / 4, i % 4));
        }
        return out.append(" / settings ").append(x.setting(0)).append(' ').append(x.setting(1)).toString();
    }

    void sameState(String what, ChairStamps got, String due) {
        same(what + ": the state is", all(got), due);
    }
}
