/** Promises 17 to 25: lines, debts as they were, sticks, the cloth, sums and counts. */
public final class RollAndClothTest {
    private static final int BAD = CrownTable.BAD, NOT = CrownTable.NOT;

    public static void main(String[] args) {
        lines();
        asOfTerms();
        sticks();
        foils();
        laying();
        taking();
        clothWrong();
        sums();
        counts();
        Check.finish();
    }

    private static void lines() {
        CrownTable x = Check.houseWith("if kind=1 then pay;if kind=2 then part 50;");
        Check.read(x, "wait;quit;");
        x.force(1, 2);
        x.term();
        x.debt(3, 3, 9, 2);
        x.debt(3, 2, 8, -1);
        x.debt(3, 1, 7, -1);
        x.come(3, 100);
        x.term();
        x.come(3, 0);
        int[][] want = {
            {1, 3, 0, 2, 0, -1, 0, -1},
            {1, 3, 1, 1, 4, 1, 0, 0},
            {1, 3, 2, 0, 7, 0, 0, 1},
            {2, 3, 0, 2, 0, 0, 1, -1},
            {2, 3, 1, 2, 0, 0, 1, -1},
        };
        Check.due("17: lines", x.count(1), want.length);
        for (int i = 0; i < want.length; i++) {
            for (int what = 0; what < 8; what++) {
                Check.due("17: line " + i + " " + what, x.line(i, what), want[i][what]);
            }
        }
        Check.due("17: BAD line", x.line(want.length, 0), -2);
        Check.due("17: BAD line below", x.line(-1, 0), -2);
        Check.due("17: BAD what", x.line(0, 8), -2);
        Check.due("17: BAD what below", x.line(0, -1), -2);
        x.heir(3, 4);
        Check.due("17: the roll never changes", x.line(4, 1), 3);
    }

    private static void asOfTerms() {
        CrownTable x = Check.houseWith("if owed<30 then quit;part 50;");
        x.term();
        x.debt(0, 1, 100, -1);
        Check.due("18: not MADE by then", x.as(0, 0), -1);
        Check.due("18: when MADE", x.as(0, 1), 100);
        x.come(0, 1000);
        Check.due("18: behind the lines of this term", x.as(0, 1), 50);
        Check.due("18: BAD, has not come", x.as(0, 2), -2);
        Check.terms(x, 2);
        x.come(0, 0);
        x.term();
        x.come(0, 0);
        Check.due("18: before", x.as(0, 0), -1);
        Check.due("18: term 1", x.as(0, 1), 50);
        Check.due("18: term 2", x.as(0, 2), 50);
        Check.due("18: term 3", x.as(0, 3), 25);
        Check.due("18: term 4", x.as(0, 4), 0);
        Check.due("18: BAD term", x.as(0, 5), -2);
        Check.due("18: BAD term below", x.as(0, -1), -2);
        Check.due("18: BAD debt", x.as(1, 0), -2);
        Check.due("18: BAD debt below", x.as(-1, 0), -2);
        twoComersAtOneTerm();
    }

    private static void twoComersAtOneTerm() {
        CrownTable x = Check.houseWith("if pledged=1 then call;part 50;");
        x.debt(0, 3, 100, 1);
        x.debt(1, 1, 8, -1);
        x.come(0, 50);
        x.come(1, 40);
        Check.due("18: called and paid by its pledge", x.as(0, 0), 60);
        Check.due("18: with no coins for it", x.as(1, 0), 8);
        x.term();
        Check.due("18: at the next term", x.as(0, 1), 60);
    }

    private static CrownTable withStick(int sum) {
        CrownTable x = Check.houseWith("pay;");
        x.debt(0, 1, sum, -1);
        x.come(0, sum);
        return x;
    }

    private static void sticks() {
        CrownTable x = withStick(999999);
        int[] want = {999999, 3, 13, 6, 3, 1, 4};
        for (int what = -1; what < 6; what++) {
            Check.due("19: stick " + what, x.stick(0, what), want[what + 1]);
        }
        x = withStick(239999);
        int[] most = {239999, 11, 19, 19, 4, 9, 0};
        for (int what = -1; what < 6; what++) {
            Check.due("19: stick " + what, x.stick(0, what), most[what + 1]);
        }
        Check.due("19: BAD stick", x.stick(1, 0), BAD);
        Check.due("19: BAD stick below", x.stick(-1, 0), BAD);
        Check.due("19: BAD what", x.stick(0, 6), BAD);
        Check.due("19: BAD what below", x.stick(0, -2), BAD);
    }

    private static void foils() {
        CrownTable x = withStick(999999);
        int[] worths = {1, 12, 240, 4800, 24000, 240000};
        for (int column = 0; column < 6; column++) {
            Check.due("20: other in " + column, x.fits(0, 999999 - worths[column]), column);
        }
        Check.due("20: fits", x.fits(0, 999999), 6);
        Check.due("20: the least column", x.fits(0, 999999 - 240001), 0);
        Check.due("20: above in the highest", x.fits(0, 999999 + 240000 * 37), 5);
        Check.due("20: none", x.fits(0, 0), 0);
        Check.due("20: most", x.fits(0, 10000000), 0);
        Check.due("20: BAD sum", x.fits(0, 10000001), BAD);
        Check.due("20: BAD sum below", x.fits(0, -1), BAD);
        Check.due("20: BAD stick", x.fits(1, 5), BAD);
        Check.due("20: BAD stick below", x.fits(-1, 5), BAD);
    }

    private static void clothIs(String what, CrownTable x, int... want) {
        for (int column = 0; column < 6; column++) {
            Check.due(what + ", column " + column, x.cloth(column), want[column]);
        }
    }

    private static void laying() {
        CrownTable x = new CrownTable();
        clothIs("23: none at first", x, 0, 0, 0, 0, 0, 0);
        Check.due("21: lay", x.lay(239999), 0);
        clothIs("21: notches", x, 11, 19, 19, 4, 9, 0);
        Check.due("21: one goes up through all", x.lay(1), 5);
        clothIs("21: all above", x, 0, 0, 0, 0, 0, 1);
        x.lay(239999);
        Check.due("21: each goes up", x.lay(239999), 5);
        clothIs("21: counters", x, 10, 19, 19, 4, 9, 2);
        Check.due("21: lies", x.sum(0), 719998);
        Check.due("21: most", x.lay(1000000), 5);
        clothIs("21: above", x, 2, 13, 6, 3, 1, 7);
        Check.due("21: no end above", x.lay(960000) + x.lay(960000) + x.lay(960000), 0);
        Check.due("23: many", x.cloth(5), 19);
    }

    private static void taking() {
        CrownTable x = new CrownTable();
        x.lay(240000);
        Check.due("22: down through all", x.take(1), 5);
        clothIs("22: laid below", x, 11, 19, 19, 4, 9, 0);
        Check.due("22: nothing lacks", x.take(239999), 0);
        clothIs("22: none", x, 0, 0, 0, 0, 0, 0);
        x.lay(24000 + 12 * 3);
        Check.due("22: from the nearest", x.take(7), 1);
        clothIs("22: from the nearest", x, 5, 2, 0, 0, 1, 0);
        Check.due("22: two lack", x.take(12 * 3 + 6), 4);
        clothIs("22: two lack", x, 11, 18, 19, 4, 0, 0);
        Check.due("22: NOT", x.take((int) x.sum(0) + 1), NOT);
        clothIs("22: NOT changes nothing", x, 11, 18, 19, 4, 0, 0);
        Check.due("22: all", x.take((int) x.sum(0)), 0);
        Check.due("22: nothing lies", x.sum(0), 0);
        Check.due("22: NOT of nothing", x.take(1), NOT);
    }

    private static void clothWrong() {
        CrownTable x = new CrownTable();
        Check.due("21: BAD", x.lay(0), BAD);
        Check.due("21: BAD below", x.lay(Integer.MIN_VALUE), BAD);
        Check.due("21: BAD above", x.lay(1000001), BAD);
        x.lay(1000000);
        x.lay(1000000);
        Check.due("22: BAD", x.take(0), BAD);
        Check.due("22: BAD below", x.take(-1), BAD);
        Check.due("22: BAD above", x.take(1000001), BAD);
        Check.due("22: most", x.take(1000000), 2);
        Check.due("23: BAD", x.cloth(6), BAD);
        Check.due("23: BAD below", x.cloth(-1), BAD);
        Check.due("21: BAD changes nothing", x.sum(0), 1000000);
    }

    private static void sums() {
        CrownTable x = Check.houseWith("if kind=1 then pay;if kind=2 then quit;");
        x.debt(0, 1, 100, -1);
        x.debt(0, 2, 30, -1);
        x.debt(0, 3, 7, 1);
        x.debt(1, 2, 4, -1);
        x.come(0, 150);
        x.come(1, 5);
        x.lay(77);
        long[] want = {77, 100, 55, 7, 34, 141, 155};
        for (int what = 0; what < 7; what++) {
            Check.due("24: sum " + what, x.sum(what), want[what]);
        }
        Check.due("24: BAD", x.sum(7), BAD);
        Check.due("24: BAD below", x.sum(-1), BAD);
    }

    private static void counts() {
        CrownTable x = Check.houseWith("pay;");
        x.feed(1, 2, 3, 4, 5);
        x.debt(0, 1, 5, -1);
        x.debt(0, 1, 5, -1);
        x.debt(0, 1, 5, -1);
        x.come(0, 6);
        x.debt(1, 1, 5, -1);
        Check.terms(x, 3);
        int[] want = {4, 3, 2, 1, 3, 20};
        for (int what = 0; what < 6; what++) {
            Check.due("25: count " + what, x.count(what), want[what]);
        }
        Check.due("25: BAD", x.count(6), BAD);
        Check.due("25: BAD below", x.count(-1), BAD);
    }
}
