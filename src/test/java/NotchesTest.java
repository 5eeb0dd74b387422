/**
 * NOTCHES and STEPS column by column: the last sum before a column is cut, the first with it, as
 * many counters as just make a step and one fewer, and takings from each column above.
 */
public final class NotchesTest {
    private static final int[] WORTHS = {1, 12, 240, 4800, 24000, 240000};
    private static final int[] OF_THE_NEXT = {12, 20, 20, 5, 10};

    public static void main(String[] args) {
        notches();
        foils();
        laysOfOne();
        stepsOfEachColumn();
        lastColumn();
        takesFromAbove();
        nearestGives();
        allOfIt();
        manySums();
        Check.finish();
    }

    private static CrownTable withStick(int sum) {
        CrownTable x = Check.houseWith("pay;");
        x.debt(0, 1, sum, -1);
        x.come(0, sum);
        return x;
    }

    private static void notches() {
        int[][] table = {
            {1, 1, 0, 0, 0, 0, 0}, {11, 11, 0, 0, 0, 0, 0}, {12, 0, 1, 0, 0, 0, 0}, {13, 1, 1, 0, 0, 0, 0},
            {239, 11, 19, 0, 0, 0, 0}, {240, 0, 0, 1, 0, 0, 0}, {241, 1, 0, 1, 0, 0, 0},
            {4799, 11, 19, 19, 0, 0, 0}, {4800, 0, 0, 0, 1, 0, 0}, {4801, 1, 0, 0, 1, 0, 0},
            {23999, 11, 19, 19, 4, 0, 0}, {24000, 0, 0, 0, 0, 1, 0}, {24001, 1, 0, 0, 0, 1, 0},
            {239999, 11, 19, 19, 4, 9, 0}, {240000, 0, 0, 0, 0, 0, 1}, {240001, 1, 0, 0, 0, 0, 1},
            {479999, 11, 19, 19, 4, 9, 1}, {480000, 0, 0, 0, 0, 0, 2}, {999999, 3, 13, 6, 3, 1, 4}, {1000000, 4, 13, 6, 3, 1, 4},
        };
        for (int[] row : table) {
            CrownTable x = withStick(row[0]);
            CrownTable y = new CrownTable();
            Check.due("21: no steps of " + row[0], y.lay(row[0]), 0);
            for (int column = -1; column < 6; column++) {
                Check.due("19: " + row[0] + " in " + column, x.stick(0, column), row[column + 1]);
            }
            for (int column = 0; column < 6; column++) {
                Check.due("21: " + row[0] + " in " + column, y.cloth(column), row[column + 1]);
            }
            Check.due("20: its own foil " + row[0], x.fits(0, row[0]), 6);
            Check.due("24: lies " + row[0], y.sum(0), row[0]);
        }
    }

    private static void foils() {
        for (int column = 0; column < 6; column++) {
            CrownTable x = withStick(WORTHS[column]);
            Check.due("20: against nothing " + column, x.fits(0, 0), column);
            Check.due("20: one notch more " + column, x.fits(0, 2 * WORTHS[column]), column);
            Check.due("20: a notch above " + column, x.fits(0, WORTHS[column] + 240000), 5);
            for (int other = 0; other < 6; other++) {
                int due = other == column ? 6 : Math.min(other, column);
                Check.due("20: " + column + " against " + other, x.fits(0, WORTHS[other]), due);
            }
        }
        Check.due("20: the most, other above alone", withStick(160000).fits(0, 10000000), 5);
        Check.due("20: the most but one", withStick(159999).fits(0, 9999999), 5);
    }

    /** Counters of one penny, laid one by one. */
    private static void laysOfOne() {
        CrownTable x = new CrownTable();
        for (int sum = 1; sum <= 480; sum++) {
            int steps = sum % 240 == 0 ? 2 : sum % 12 == 0 ? 1 : 0;
            Check.due("21: penny " + sum, x.lay(1), steps);
        }
        Check.due("23: pennies", x.cloth(0), 0);
        Check.due("23: shillings", x.cloth(1), 0);
        Check.due("23: pounds", x.cloth(2), 2);
    }

    private static void stepsOfEachColumn() {
        for (int column = 0; column < 5; column++) {
            CrownTable x = new CrownTable();
            int most = OF_THE_NEXT[column] - 1;
            for (int counters = 1; counters <= most; counters++) {
                Check.due("21: no step in " + column + " of " + counters, x.lay(WORTHS[column]), 0);
                Check.due("23: counters in " + column, x.cloth(column), counters);
            }
            Check.due("21: a step in " + column, x.lay(WORTHS[column]), 1);
            Check.due("23: none stays in " + column, x.cloth(column), 0);
            Check.due("23: one above " + column, x.cloth(column + 1), 1);
            x.lay(most * WORTHS[column]);
            Check.due("21: twice one fewer in " + column, x.lay(most * WORTHS[column]), 1);
            Check.due("23: two fewer stay in " + column, x.cloth(column), most - 1);
            Check.due("23: two above " + column, x.cloth(column + 1), 2);
            Check.due("22: one goes down again", x.take(most * WORTHS[column]), 1);
            Check.due("23: one fewer above " + column, x.cloth(column + 1), 1);
            Check.due("23: as it was in " + column, x.cloth(column), most);
        }
    }

    private static void lastColumn() {
        CrownTable x = new CrownTable();
        for (int lay = 1; lay <= 100; lay++) {
            Check.due("21: no step above", x.lay(960000), 0);
        }
        Check.due("23: no end above", x.cloth(5), 400);
        Check.due("24: lies", x.sum(0), 96000000);
        Check.due("22: taken above", x.take(960000), 0);
        Check.due("22: from above", x.take(1), 5);
        Check.due("23: four and one fewer", x.cloth(5), 395);
    }

    /** One counter lies in a column; one of each column below is taken from it. */
    private static void takesFromAbove() {
        for (int giver = 1; giver < 6; giver++) {
            for (int lacks = 0; lacks < giver; lacks++) {
                CrownTable x = new CrownTable();
                x.lay(WORTHS[giver]);
                String what = "22: from " + giver + " to " + lacks;
                Check.due(what, x.take(WORTHS[lacks]), giver - lacks);
                for (int column = 0; column < 6; column++) {
                    boolean gone = column >= lacks && column < giver;
                    Check.due(what + ", in " + column, x.cloth(column), gone ? OF_THE_NEXT[column] - 1 : 0);
                }
            }
        }
    }

    private static void nearestGives() {
        CrownTable x = new CrownTable();
        x.lay(240000 + 4800 + 240);
        Check.due("22: the nearest that has some", x.take(12), 1);
        int[] first = {0, 19, 0, 1, 0, 1};
        clothIs("22: the nearest gave", x, first);
        Check.due("22: two columns lack", x.take(11 + 240), 2);
        int[] second = {1, 18, 19, 0, 0, 1};
        clothIs("22: both were given", x, second);
        // One step into column 0, one into 1, and three into 2, which leave enough in 3 and 4.
        Check.due("22: one lacks after the other", x.take(24000 + 4800 + 19 * 240 + 18 * 12 + 2), 5);
        int[] third = {11, 19, 19, 3, 8, 0};
        clothIs("22: each was given", x, third);
        Check.due("22: what is left", x.sum(0), 245040 - 12 - 251 - 33578);
    }

    private static void clothIs(String what, CrownTable x, int[] want) {
        for (int column = 0; column < 6; column++) {
            Check.due(what + ", in " + column, x.cloth(column), want[column]);
        }
    }

    private static void allOfIt() {
        for (int sum : new int[] {1, 12, 239, 240000, 239999, 999999, 1000000}) {
            CrownTable x = new CrownTable();
            x.lay(sum);
            Check.due("22: NOT one more than " + sum, x.take(Math.min(sum + 1, 1000000)), sum == 1000000 ? 0 : CrownTable.NOT);
            Check.due("22: all of " + sum, x.take(sum), sum == 1000000 ? CrownTable.NOT : 0);
            Check.due("22: nothing lies", x.sum(0), 0);
            clothIs("22: no counters of " + sum, x, new int[6]);
            Check.due("22: NOT of nothing", x.take(1), CrownTable.NOT);
        }
    }

    /** Whatever is laid and taken, fewer counters lie in a column than the next one is worth. */
    private static void manySums() {
        CrownTable x = new CrownTable();
        long lies = 0;
        for (int i = 1; i <= 50; i++) {
            int lay = (int) (i * 7919L * 104729 % 1000000) + 1;
            int take = (int) (i * 6007L * 15013 % 1000000) + 1;
            x.lay(lay);
            lies += lay;
            boolean can = take <= lies;
            Check.due("22: take " + take + " of " + lies, x.take(take) >= 0 ? 1 : 0, can ? 1 : 0);
            lies -= can ? take : 0;
            Check.due("24: lies", x.sum(0), lies);
            long rest = lies;
            for (int column = 5; column >= 0; column--) {
                Check.due("23: column " + column + " of " + lies, x.cloth(column), rest / WORTHS[column]);
                rest %= WORTHS[column];
            }
        }
    }
}
