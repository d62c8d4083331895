/** Offices that many tests begin with. */
final class Offices {
    static final String TEXT = "Kc0450c1480f03000004t0";

    private Offices() {
    }

    /**
     * Two chairs and two floors, a text, 14 remembered states, and slot 0 saved, slot 1 empty. The
     * chair 0 is stamped on the floor 0; the chair 1 has legs of 479, 480, 479, 479 behind the sitter.
     */
    static ChairStamps busy() {
        ChairStamps x = Check.loaded(TEXT);
        x.save(0);
        x.bring(1, 1, 2);
        x.sit(1, 60);
        for (int fee = 1; fee <= 13; fee++) {
            x.set(0, fee);
        }
        return x;
    }

    static ChairStamps fullOfChairs() {
        ChairStamps x = busy();
        for (int c = 2; c < 10; c++) {
            x.chair(c % 4, 440 + c);
        }
        return x;
    }

    static ChairStamps fullOfFloors() {
        ChairStamps x = busy();
        x.floor(50, 0, 50, 0);
        x.floor(1, 2, 3, 4);
        return x;
    }

    static ChairStamps fullText() {
        ChairStamps x = busy();
        for (int i = TEXT.length(); i < 120; i++) {
            x.append('7');
        }
        return x;
    }

    /** Ten chairs and four floors, so that every digit of a text or a script can be one that is there. */
    static ChairStamps full() {
        ChairStamps x = fullOfChairs();
        x.floor(50, 0, 50, 0);
        x.floor(1, 2, 3, 4);
        return x;
    }

    /** One chair of guild 0 with these legs, on the floor 0. */
    static ChairStamps withLegs(int... lengths) {
        ChairStamps x = new ChairStamps();
        int most = Math.max(Math.max(lengths[0], lengths[1]), Math.max(lengths[2], lengths[3]));
        x.chair(0, most);
        for (int k = 0; k < 4; k++) {
            if (lengths[k] < most) {
                x.saw(0, k, most - lengths[k]);
            }
        }
        return x;
    }
}
