/** Seas, BOATS and LOTS as the tests that go along the document need them. */
final class Fleet {
    static final int BOAT = 0, MAPPER = 1, CARRIER = 2, ANCHOR = 3, LOST = 4, DEAD = 5, HOME = 6;

    private Fleet() {
    }

    /** LOTS as the document tells them, written once more. */
    static final class Lots {
        private int l;

        Lots(int l) {
            this.l = l;
        }

        boolean carries() {
            l = l * 1103515245 + 12345;
            int bits = 0;
            for (int i = 0; i < 15; i++) {
                bits += (l >> (16 + i) & 1) << i;
            }
            return bits % 4 != 0;
        }
    }

    /** A number by which LOTS carry (1) or do not (0) in just this order. */
    static int seedFor(String carried) {
        for (int l = 1; l < 10000000; l++) {
            Lots lots = new Lots(l);
            int k = 0;
            while (k < carried.length() && lots.carries() == (carried.charAt(k) == '1')) {
                k++;
            }
            if (k == carried.length()) {
                return l;
            }
        }
        throw new IllegalStateException(carried);
    }

    /** BOATS of KIND 0 in these CELLS, with 100 of POWER; all others are HOME in CELL 0, and draw no LOTS. */
    static IceBoats only(int... cells) {
        IceBoats x = new IceBoats();
        for (int b = 0; b < 6; b++) {
            if (b < cells.length) {
                x.boat(b, BOAT, cells[b], 100);
            } else {
                x.home(b);
            }
        }
        return x;
    }

    /** BOAT 0 of any KIND in a CELL at TICK 1; all others are HOME in CELL 0. */
    static IceBoats ofKind(int kind, int cell, int power) {
        IceBoats x = only(cell);
        x.boat(0, kind <= ANCHOR ? kind : BOAT, cell, kind == DEAD ? 0 : power);
        if (kind == LOST) {
            rules(x, 0, "L0");
        }
        if (kind == HOME) {
            x.hole(cell);
            x.home(0);
        }
        x.tick();
        return x;
    }

    static void rules(IceBoats x, int b, String signs) {
        x.text(3, signs.length());
        for (int i = 0; i < signs.length(); i++) {
            x.put(3, i, signs.charAt(i));
        }
        if (x.rules(b, 3) < 0) {
            throw new IllegalStateException(signs);
        }
    }

    /** The same CURRENT in all CELLS. */
    static void currents(IceBoats x, int current) {
        for (int c = 0; c < 64; c++) {
            x.cell(c, current, 1, 0);
        }
    }

    static int told(IceBoats x, int b, int what) {
        x.told(b, what);
        return x.asked();
    }

    static int cell(IceBoats x, int b) {
        return told(x, b, 1);
    }

    static int power(IceBoats x, int b) {
        return told(x, b, 2);
    }

    static long could(IceBoats x, int b) {
        x.could(b);
        return x.set();
    }

    static long cells(int... all) {
        long set = 0;
        for (int c : all) {
            set |= 1L << c;
        }
        return set;
    }
}
