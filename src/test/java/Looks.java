/** Ways to look at all that an object holds; each takes an object of its own, as some change it. */
final class Looks {
    static final int WAYS = 5;

    private Looks() {
    }

    static String look(ChairStamps x, int way) {
        switch (way) {
            case 0: return "the state is " + Check.all(x);
            case 1: return "remembered is " + remembered(x);
            case 2: return "slot 0 holds " + slot(x, 0);
            case 3: return "slot 1 holds " + slot(x, 1);
            default: return "the text is " + text(x);
        }
    }

    private static String remembered(ChairStamps x) {
        StringBuilder out = new StringBuilder();
        for (int i = 0; i < 15; i++) {
            try {
                out.append(" / ").append(x.undo()).append(':');
            } catch (IllegalStateException e) {
                return out.toString();
            }
            for (int what = 0; what <= 10; what++) {
                out.append(' ').append(x.about(what));
            }
            out.append(' ').append(x.setting(0)).append(' ').append(x.setting(1));
        }
        return out.append(" and more").toString();
    }

    private static String slot(ChairStamps x, int slot) {
        try {
            return x.restore(slot) + ": " + Check.all(x);
        } catch (IllegalStateException e) {
            return "nothing";
        }
    }

    /** The text can't be read itself, but its length can, and what it does. */
    private static String text(ChairStamps x) {
        int error = x.errorPosition();
        String done = error == ChairStamps.NONE ? x.load() + " left out of " + Check.all(x) : "no office";
        return error + ", " + done + ", length " + x.clearText();
    }
}
