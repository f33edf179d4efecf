/** Brooks, stones and sheets that tests begin with. */
final class Brooks {
    /** The sheet that texts are written in; the others have nothing. */
    static final int TEXT_SHEET = 3;

    private Brooks() { }

    static void write(BrookStones x, int sheet, int sort, int... numbers) {
        x.sheet(sheet, sort, numbers.length);
        for (int i = 0; i < numbers.length; i++) {
            x.put(sheet, i, numbers[i]);
        }
    }

    static int read(BrookStones x, String text) {
        write(x, TEXT_SHEET, 0, text.chars().toArray());
        return x.brook(TEXT_SHEET, 0, 0, text.length());
    }

    static BrookStones by(String text) {
        BrookStones x = new BrookStones();
        read(x, text);
        return x;
    }

    /** Five cells and four stones that still lie about: STONE, FLAT, TABLE, STONE. */
    static BrookStones five() {
        BrookStones x = by("d24531;b12103;p2");
        x.stone(0, 6, 3, 1);
        x.stone(1, 8, 2, 0);
        x.stone(2, 9, 5, 3);
        x.stone(0, 4, 9, 9);
        return x;
    }

    /** Three cells without depth, bed and pace; in each a stone of HEIGHT 1 and WEIGHT 3. */
    static BrookStones three() {
        BrookStones x = by("d000;b000;p0");
        for (int c = 0; c < 3; c++) {
            x.stone(0, 1, 3, 0);
            x.set(c, c);
        }
        return x;
    }
}
