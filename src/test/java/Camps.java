import java.util.Arrays;

/** Camps that many tests begin with. */
final class Camps {
    private Camps() {
    }

    /** A camp with so many huts of that many beds in row 0. */
    static CampWeek ofHuts(int huts, int beds) {
        CampWeek x = new CampWeek();
        for (int i = 0; i < huts; i++) {
            x.hut(0, beds);
        }
        return x;
    }

    /** A camp with huts of those beds, each in a row of its own. */
    static CampWeek ofRows(int... beds) {
        CampWeek x = new CampWeek();
        for (int row = 0; row < beds.length; row++) {
            x.hut(row, beds[row]);
        }
        return x;
    }

    /** Adds parties of those sizes, of grown people at no table, in week 0. */
    static CampWeek add(CampWeek x, int... sizes) {
        for (int size : sizes) {
            x.party(size, 0, 0, 0, CampWeek.NONE);
        }
        return x;
    }

    /** A camp with parties of those sizes at those tables, lodged in week 0. */
    static CampWeek with(int[] sizes, int[] tables) {
        CampWeek x = ofHuts(sizes.length, 8);
        for (int i = 0; i < sizes.length; i++) {
            x.party(sizes[i], 0, 0, 0, tables[i]);
            x.lodge(i);
        }
        return x;
    }

    /** A camp with parties of those sizes, each at no table, lodged in week 0. */
    static CampWeek with(int... sizes) {
        return with(sizes, alone(sizes.length));
    }

    /** A camp with 24 parties of that size, each at no table, lodged in week 0. */
    static CampWeek full(int size) {
        int[] sizes = new int[24];
        Arrays.fill(sizes, size);
        return with(sizes);
    }

    static int[] alone(int n) {
        int[] tables = new int[n];
        Arrays.fill(tables, CampWeek.NONE);
        return tables;
    }
}
