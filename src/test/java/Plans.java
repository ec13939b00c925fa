/** Docks that the tests begin with. */
final class Plans {
    private Plans() {
    }

    static void enter(KeelBlocks dock, String text) {
        dock.clearText();
        for (int i = 0; i < text.length(); i++) {
            dock.append(text.charAt(i));
        }
    }

    /** A dock with the plan of a text, and with one saved state. */
    static KeelBlocks of(String text) {
        KeelBlocks dock = new KeelBlocks();
        enter(dock, text);
        if (dock.parse() < 0) {
            throw new IllegalArgumentException(text);
        }
        dock.clearText();
        return dock;
    }

    /** Blocks of stiffness 1 and cap 0 at 0, 100, 200, 300 and 400; each has the load 200. */
    static KeelBlocks five(int outer, int inner, int middle) {
        return of("b0,1,0," + outer + ";b100,1,0," + inner + ";b200,1,0," + middle + ";b300,1,0," + inner
                + ";b400,1,0," + outer + ";");
    }

    static KeelBlocks full() {
        KeelBlocks dock = new KeelBlocks();
        for (int i = 0; i < 16; i++) {
            dock.addBlock(25 * i, 1 + i, 0, 5000);
        }
        return dock;
    }

    /** All that can be asked about a dock, in a row. */
    static String state(KeelBlocks dock) {
        StringBuilder row = new StringBuilder();
        for (int what = 0; what <= 9; what++) {
            row.append(dock.value(what)).append(' ');
        }
        for (int block = 0; block < dock.value(2); block++) {
            row.append("| ");
            for (int what = 0; what <= 8; what++) {
                row.append(dock.block(block, what)).append(' ');
            }
        }
        return row.append("# ").append(dock.digest()).toString();
    }

    static String loads(KeelBlocks dock) {
        return about(dock, 5);
    }

    static String about(KeelBlocks dock, int what) {
        StringBuilder row = new StringBuilder();
        for (int block = 0; block < dock.value(2); block++) {
            row.append(block == 0 ? "" : " ").append(dock.block(block, what));
        }
        return row.toString();
    }
}
