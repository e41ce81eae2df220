/** Counts the answers that are not as due, for one test. */
final class Check {
    static final int NONE = -1, BAD = -2, NOT = -3, FULL = -4;
    static final int NULL = -11, INDEX = -12, CAST = -13, STORE = -14, SIZE = -15;
    static final int ALL_HOURS = 0xFFFFFF;
    /** Numbers that are wrong wherever a small number from 0 on is due. */
    static final int[] FAR = {-1, Integer.MIN_VALUE, Integer.MAX_VALUE};

    private int wrong = 0;

    void due(String what, long got, long want) {
        if (got != want) {
            wrong++;
            System.out.println(what + " answered " + got + ", due is " + want);
        }
    }

    /** The refusal is due, and nothing may have been changed by it. */
    void refused(String what, HiccupPeace x, long before, long got, long want) {
        due(what, got, want);
        due(what + ", digest() behind it", x.digest(), before);
    }

    void isTrue(String what, boolean is) {
        due(what, is ? 1 : 0, 1);
    }

    static HiccupPeace typed(String... menus) {
        HiccupPeace x = new HiccupPeace();
        for (int g = 0; g < menus.length; g++) {
            type(x, g, menus[g]);
        }
        return x;
    }

    static void type(HiccupPeace x, int general, String menu) {
        for (char c : menu.toCharArray()) {
            x.type(general, c);
        }
    }

    static void retype(HiccupPeace x, int general, String menu) {
        x.wipe(general);
        type(x, general, menu);
    }

    static int hours(int... hours) {
        int bits = 0;
        for (int hour : hours) {
            bits |= 1 << hour;
        }
        return bits;
    }

    /** The hours from one to another one. */
    static int row(int from, int to) {
        int bits = 0;
        for (int hour = from; hour <= to; hour++) {
            bits |= 1 << hour;
        }
        return bits;
    }

    void end() {
        System.out.println(wrong == 0 ? "as due" : wrong + " answers are not as due");
        if (wrong != 0) {
            System.exit(1);
        }
    }
}
