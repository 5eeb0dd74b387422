import java.util.function.Supplier;
import java.util.function.ToLongFunction;

/**
 * Every number that a call is given: the last inside its range is taken, the first outside is
 * refused; of several answers the one named first; and what is refused changes nothing.
 */
public final class RefusedTest {
    private static final int BAD = CrownTable.BAD, NOT = CrownTable.NOT, FULL = CrownTable.FULL;
    private static final int MIN = Integer.MIN_VALUE, MAX = Integer.MAX_VALUE;

    // A house is built by the same supplier each time, so that what is seen of it is seen once.
    private static final Supplier<CrownTable> NEW = CrownTable::new;
    private static final Supplier<CrownTable> BUSY = RefusedTest::busy;
    private static final Supplier<CrownTable> TEN_TEXTS = RefusedTest::tenTexts;
    private static final Supplier<CrownTable> FORTY_FORCES = RefusedTest::fortyForces;
    private static final Supplier<CrownTable> MANY_DEBTS = RefusedTest::manyDebts;
    private static final Supplier<CrownTable> FULL_ROLL = RefusedTest::fullRoll;
    private static final Supplier<CrownTable> ALL_STICKS = RefusedTest::allSticks;

    public static void main(String[] args) {
        busyIsBusy();
        tape();
        texts();
        forces();
        woulds();
        shires();
        debts();
        terms();
        comings();
        persons();
        abouts();
        rolls();
        sticks();
        cloths();
        sumsAndCounts();
        questions();
        Check.finish();
    }

    /** At TERM 3: two texts, three forces, 8 debts of every kind, and something of all there is. */
    private static CrownTable busy() {
        CrownTable x = Check.houseWith("if kind=3 and age>0 then call;if kind=2 then quit;"
            + "if kind=1 and held=0 then hold;if owed>500 then part 50;pay;");
        Check.read(x, "if owed=70 then hold;if kind=0 then part 10;");
        x.force(1, 5);
        x.force(0, 600);
        x.shire(0, 1000, 1);
        x.shire(3, 70, 2);
        x.shire(6, 0, 3);
        x.shire(7, 5, -1);
        x.debt(1, 1, 300, -1);
        x.debt(2, 3, 400, 3);
        x.debt(2, 2, 90, -1);
        x.debt(4, 3, 50, 5);
        x.come(1, 700);
        x.come(2, 10);
        x.term();
        x.come(2, 100);
        x.come(1, 50);
        Check.terms(x, 2);
        x.debt(6, 3, 33, 7);
        x.debt(7, 3, 34, 6);
        x.come(1, 200);
        x.come(3, 20);
        x.lay(123456);
        x.take(789);
        Check.write(x, "if 1=1 then hold;pay;");
        return x;
    }

    private static void busyIsBusy() {
        CrownTable x = busy();
        int[] counts = {8, 7, 3, 2, 3, 21};
        long[] sums = {122667, 810, 270, 1077, 90, 1977, 1080};
        for (int what = 0; what < counts.length; what++) {
            Check.due("busy: count " + what, x.count(what), counts[what]);
        }
        for (int what = 0; what < sums.length; what++) {
            Check.due("busy: sum " + what, x.sum(what), sums[what]);
        }
        Check.due("busy: 1 is held", x.owe(1, 2), 1);
        Check.due("busy: 3 was called", x.about(1, 0), 3);
    }

    private static void taken(String what, Supplier<CrownTable> build, ToLongFunction<CrownTable> call, long due) {
        Check.due(what, call.applyAsLong(build.get()), due);
    }

    private static void refused(String what, Supplier<CrownTable> build, ToLongFunction<CrownTable> call, long due) {
        Looks.unchanged(what, build, call, due);
    }

    /** A house whose tape has this many bytes: as many as hold of "pay;" over and over. */
    private static CrownTable taped(int bytes) {
        CrownTable x = new CrownTable();
        for (int i = 0; i < (bytes + 19) / 20; i++) {
            x.feed(0x7061793b, 0x7061793b, 0x7061793b, 0x7061793b, 0x7061793b);
        }
        x.end(bytes);
        return x;
    }

    private static void tape() {
        for (int bytes : new int[] {781, 790, 799, 800}) {
            refused("2: feed behind " + bytes, () -> taped(bytes), x -> x.feed(0x7061793b, 0, 0, 0, 0), FULL);
        }
        taken("2: feed to 800", () -> taped(780), x -> x.feed(0, 0, 0, 0, 0), 800);
        taken("2: feed to 799", () -> taped(779), x -> x.feed(0, 0, 0, 0, 0), 799);
        for (int n : new int[] {-1, MIN, 22, 801, MAX}) {
            refused("3: end " + n, BUSY, x -> x.end(n), BAD);
        }
        refused("3: end of nothing", NEW, x -> x.end(1), BAD);
        refused("3: end below nothing", NEW, x -> x.end(-1), BAD);
        taken("3: end 0", BUSY, x -> x.end(0), 0);
        taken("3: end of all", BUSY, x -> x.end(21), 21);
        taken("3: end of 800", () -> taped(800), x -> x.end(800), 800);
        refused("3: end of all", BUSY, x -> x.end(21), 21);
    }

    private static CrownTable textsOf(int many) {
        CrownTable x = new CrownTable();
        for (int text = 0; text < many; text++) {
            Check.read(x, "pay;".repeat(text + 1));
        }
        x.debt(0, 1, 5, -1);
        return x;
    }

    private static CrownTable tenTexts() {
        CrownTable x = textsOf(10);
        Check.write(x, "quit;");
        return x;
    }

    private static CrownTable tenTextsAnd(String tape) {
        CrownTable x = textsOf(10);
        Check.write(x, tape);
        return x;
    }

    private static void texts() {
        refused("4: an eleventh", TEN_TEXTS, CrownTable::text, FULL);
        refused("4: a faulty eleventh", () -> tenTextsAnd("quit"), CrownTable::text, FULL);
        refused("4: an empty eleventh", () -> tenTextsAnd(""), CrownTable::text, FULL);
        taken("4: the tenth", () -> textsOf(9), x -> Check.read(x, "quit;"), 9);
        taken("4: a faulty one is no tenth", () -> textsOf(9), x -> Check.read(x, "quit") + Check.read(x, "pay;"), -95);
        for (int text : new int[] {-1, MIN, 10, 11, MAX}) {
            refused("5: statements of " + text, TEN_TEXTS, x -> x.statements(text), BAD);
        }
        taken("5: statements of 9", TEN_TEXTS, x -> x.statements(9), 10);
        taken("5: statements of 0", TEN_TEXTS, x -> x.statements(0), 1);
        refused("5: statements of one not read yet", BUSY, x -> x.statements(2), BAD);
        refused("5: statements of none", NEW, x -> x.statements(0), BAD);
        taken("5: statements of the last read", BUSY, x -> x.statements(1), 2);
    }

    private static CrownTable forcesOf(int many) {
        CrownTable x = Check.houseWith("pay;");
        for (int i = 1; i < many; i++) {
            x.force(0, i);
        }
        return x;
    }

    private static CrownTable fortyForces() {
        CrownTable x = forcesOf(40);
        x.term();
        Check.read(x, "wait;");
        return x;
    }

    private static void forces() {
        for (int text : new int[] {-1, MIN, 2, 9, 10, MAX}) {
            refused("6: force of " + text, BUSY, x -> x.force(text, 3), BAD);
            refused("6: BAD before FULL, text " + text, FORTY_FORCES, x -> x.force(text, 1), BAD);
        }
        for (int term : new int[] {-1, 0, 2, 1001, MIN, MAX}) {
            refused("6: force from " + term, BUSY, x -> x.force(0, term), BAD);
        }
        for (int term : new int[] {0, 1001}) {
            refused("6: BAD before FULL, term " + term, FORTY_FORCES, x -> x.force(0, term), BAD);
        }
        for (int term : new int[] {1, 2, 1000}) {
            refused("6: a 41st force from " + term, FORTY_FORCES, x -> x.force(1, term), FULL);
        }
        refused("6: force without texts", NEW, x -> x.force(0, 0), BAD);
        taken("6: a fortieth", () -> forcesOf(39), x -> x.force(0, 0), 1);
        taken("6: of the last text from now", BUSY, x -> x.force(1, 3), 1);
        taken("6: from 1000", BUSY, x -> x.force(1, 1000), 1);
        taken("6: from 1000, at 999", BUSY, x -> x.force(1, 1000) + x.inForce(999), 1);
        taken("6: from 1000, at 1000", BUSY, x -> x.force(1, 1000) + x.inForce(1000), 2);
        for (int term : new int[] {-1, 1001, MIN, MAX}) {
            refused("7: in force at " + term, BUSY, x -> x.inForce(term), -1);
        }
        taken("7: at 0", BUSY, x -> x.inForce(0), 0);
        taken("7: before it", BUSY, x -> x.inForce(4), 0);
        taken("7: from it on", BUSY, x -> x.inForce(5), 1);
        taken("7: before the last one", BUSY, x -> x.inForce(599), 1);
        taken("7: at 1000", BUSY, x -> x.inForce(1000), 0);
        taken("7: none is told", NEW, x -> x.inForce(1000), -1);
    }

    private static void woulds() {
        for (int text : new int[] {-1, MIN, 2, MAX}) {
            refused("8: by text " + text, BUSY, x -> x.would(text, 1, 0), BAD);
        }
        for (int debt : new int[] {-1, MIN, 8, 400, MAX}) {
            refused("8: of debt " + debt, BUSY, x -> x.would(0, debt, 0), BAD);
        }
        for (int coins : new int[] {-1, MIN, 10000001, MAX}) {
            refused("8: with " + coins, BUSY, x -> x.would(0, 1, coins), BAD);
            refused("8: BAD before NOT, with " + coins, BUSY, x -> x.would(1, 1, coins), BAD);
        }
        refused("8: of a debt that is paid", BUSY, x -> x.would(0, 0, 0), BAD);
        refused("8: of a debt that is pardoned", BUSY, x -> x.would(0, 2, 0), BAD);
        refused("8: by none", BUSY, x -> x.would(1, 1, 0), NOT);
        refused("8: by the first", BUSY, x -> x.would(0, 1, 0), 0);
        refused("8: by the last text, of the last debt", BUSY, x -> x.would(1, 7, 10000000), NOT);
        refused("8: no texts", NEW, x -> x.would(0, 0, 0), BAD);
        refused("8: no debts", () -> forcesOf(1), x -> x.would(0, 0, 0), BAD);
    }

    private static void shires() {
        for (int shire : new int[] {-1, MIN, 8, MAX}) {
            refused("9: shire " + shire, BUSY, x -> x.shire(shire, 9, 9), BAD);
        }
        for (int farm : new int[] {-1, MIN, 100001, MAX}) {
            refused("9: farm " + farm, BUSY, x -> x.shire(0, farm, 9), BAD);
        }
        for (int sheriff : new int[] {-2, MIN, 16, MAX}) {
            refused("9: sheriff " + sheriff, BUSY, x -> x.shire(0, 9, sheriff), BAD);
            refused("9: sheriff " + sheriff + " of no farm", BUSY, x -> x.shire(0, 0, sheriff), BAD);
        }
        for (int shire = 0; shire < 8; shire++) {
            int s = shire;
            taken("9: shire " + s, NEW, x -> farmOf(x, s, 100000, 15), 100000 * 16 + 15);
        }
        for (int sheriff = 0; sheriff < 16; sheriff++) {
            int s = sheriff;
            taken("9: sheriff " + s, NEW, x -> farmOf(x, 0, 1, s), 16 + s);
        }
        taken("9: farm 0", NEW, x -> farmOf(x, 0, 0, 1), -2 * 16 - 2);
        taken("9: no sheriff", NEW, x -> farmOf(x, 0, 1, -1), -2 * 16 - 2);
    }

    /** The first debt of a new house that comes by a shire: its sum and its person. */
    private static long farmOf(CrownTable x, int shire, int farm, int sheriff) {
        Check.due("9: shire is told", x.shire(shire, farm, sheriff), 1);
        Check.terms(x, 2);
        return x.about(0, 2) * 16L + x.about(0, 0);
    }

    /** 399 farms of 1000, owed by persons 0 to 7, at TERM 100; none will fall due any more. */
    private static CrownTable manyDebts() {
        CrownTable x = new CrownTable();
        for (int shire = 0; shire < 8; shire++) {
            x.shire(shire, 1000, shire);
        }
        Check.terms(x, 99);
        x.shire(7, 0, -1);
        x.term();
        for (int shire = 0; shire < 7; shire++) {
            x.shire(shire, 0, -1);
        }
        return x;
    }

    private static CrownTable allDebts() {
        CrownTable x = manyDebts();
        x.debt(15, 1, 77, -1);
        return x;
    }

    private static void debts() {
        Supplier<CrownTable> full = RefusedTest::allDebts;
        int[][] wrong = {
            {-1, 1, 5, -1}, {16, 1, 5, -1}, {MIN, 1, 5, -1}, {MAX, 1, 5, -1},
            {0, 0, 5, -1}, {0, 4, 5, -1}, {0, -1, 5, -1}, {0, MIN, 5, -1}, {0, MAX, 5, -1}, {0, 4, 5, 1}, {0, 0, 5, 1},
            {0, 1, 0, -1}, {0, 1, -1, -1}, {0, 1, 1000001, -1}, {0, 2, MIN, -1}, {0, 2, MAX, -1},
            {0, 1, 5, 0}, {0, 1, 5, 1}, {0, 1, 5, -2}, {0, 2, 5, 15}, {0, 2, 5, 16}, {0, 1, 5, MIN}, {0, 1, 5, MAX},
            {0, 3, 5, -1}, {0, 3, 5, -2}, {0, 3, 5, 16}, {0, 3, 5, 0}, {15, 3, 5, 15}, {0, 3, 5, MIN}, {0, 3, 5, MAX},
            {16, 3, 5, 0}, {-1, 3, 5, 0}, {0, 3, 0, 1}, {0, 3, 1000001, 1},
        };
        for (int[] w : wrong) {
            String what = w[0] + " " + w[1] + " " + w[2] + " " + w[3];
            refused("10: debt " + what, BUSY, x -> x.debt(w[0], w[1], w[2], w[3]), BAD);
            taken("10: BAD before FULL " + what, full, x -> x.debt(w[0], w[1], w[2], w[3]), BAD);
        }
        int[][] right = {{0, 1, 1, -1}, {15, 1, 1000000, -1}, {15, 2, 1, -1}, {0, 3, 1, 15}, {15, 3, 1000000, 0}, {7, 3, 2, 8}};
        for (int[] r : right) {
            String what = r[0] + " " + r[1] + " " + r[2] + " " + r[3];
            taken("10: debt " + what, BUSY, x -> x.debt(r[0], r[1], r[2], r[3]), 8);
            taken("10: the last debt " + what, MANY_DEBTS, x -> x.debt(r[0], r[1], r[2], r[3]), 399);
            refused("10: one too many " + what, full, x -> x.debt(r[0], r[1], r[2], r[3]), FULL);
        }
    }

    private static CrownTable beforeFarms(int debts, int shires) {
        CrownTable x = manyDebts();
        for (int debt = 399; debt < debts; debt++) {
            x.debt(0, 1, 5, -1);
        }
        x.term();
        for (int shire = 0; shire < shires; shire++) {
            x.shire(7 - shire, 9, 15);
        }
        return x;
    }

    private static void terms() {
        refused("11: one debt too many", () -> beforeFarms(399, 2), CrownTable::term, FULL);
        refused("11: seven too many", () -> beforeFarms(399, 8), CrownTable::term, FULL);
        refused("11: all are there", () -> beforeFarms(400, 1), CrownTable::term, FULL);
        taken("11: the last debt", () -> beforeFarms(399, 1), CrownTable::term, 102);
        taken("11: none falls due", () -> beforeFarms(400, 0), CrownTable::term, 102);
        taken("11: a shire without a farm", () -> beforeFarms(399, 1), x -> x.shire(0, 0, 1) + x.term(), 103);
        taken("11: a shire without a sheriff", () -> beforeFarms(399, 1), x -> x.shire(0, 9, -1) + x.term(), 103);
        taken("11: an odd term", MANY_DEBTS, x -> {
            x.shire(0, 9, 1);
            x.shire(1, 9, 1);
            return x.term();
        }, 101);
    }

    /** Ten comings of 399 and one debt; the roll has 4000 lines, and both came at this TERM. */
    private static CrownTable fullRoll() {
        CrownTable x = owedByTwo();
        for (int coming = 0; coming < 10; coming++) {
            x.term();
            x.come(1, 1);
            x.come(15, 1);
        }
        return x;
    }

    /** Person 1 owes 399 debts, person 15 one. */
    private static CrownTable owedByTwo() {
        CrownTable x = allDebts();
        for (int person = 0; person < 8; person++) {
            x.heir(person, 1);
        }
        return x;
    }

    private static CrownTable allSticks() {
        CrownTable x = owedByTwo();
        Check.read(x, "part 2;");
        x.force(0, 101);
        for (int coming = 0; coming < 5; coming++) {
            x.term();
            x.come(1, 1000000);
            x.come(15, 10);
        }
        return x;
    }

    private static CrownTable aTermOn(Supplier<CrownTable> build) {
        CrownTable x = build.get();
        x.term();
        return x;
    }

    private static void comings() {
        for (int person : new int[] {-1, MIN, 16, MAX}) {
            refused("12: person " + person, BUSY, x -> x.come(person, 5), BAD);
        }
        for (int coins : new int[] {-1, MIN, 1000001, MAX}) {
            refused("12: coins " + coins, BUSY, x -> x.come(2, coins), BAD);
            refused("12: BAD before NOT, coins " + coins, BUSY, x -> x.come(1, coins), BAD);
            taken("12: BAD before FULL, coins " + coins, () -> aTermOn(FULL_ROLL), x -> x.come(1, coins), BAD);
        }
        refused("12: came before", BUSY, x -> x.come(1, 5), NOT);
        refused("12: came before, with nothing", BUSY, x -> x.come(1, 0), NOT);
        taken("12: last person", BUSY, x -> x.come(15, 1000000) + x.owe(15, 1), 1000000);
        taken("12: first person", BUSY, x -> x.come(0, 0) + x.owe(0, 4), 1);
        Check.due("12: lines of a full roll", fullRoll().count(1), 4000);
        Check.due("12: its sticks", fullRoll().count(2), 0);
        Check.due("12: all sticks", allSticks().count(2), 2000);
        Check.due("12: their lines", allSticks().count(1), 2000);
        fullHouses("roll", FULL_ROLL);
        fullHouses("sticks", ALL_STICKS);
    }

    private static void fullHouses(String name, Supplier<CrownTable> house) {
        refused("12: NOT before FULL, " + name, house, x -> x.come(1, 1), NOT);
        Supplier<CrownTable> later = () -> aTermOn(house);
        refused("12: FULL " + name, later, x -> x.come(1, 1), FULL);
        refused("12: FULL " + name + " by one", later, x -> x.come(15, 0), FULL);
        taken("12: who owes nothing has room, " + name, later, x -> x.come(0, 7) + x.owe(0, 1), 7);
    }

    private static void persons() {
        for (int person : new int[] {-1, MIN, 16, MAX}) {
            refused("13: free " + person, BUSY, x -> x.free(person), BAD);
            refused("14: heir from " + person, BUSY, x -> x.heir(person, 1), BAD);
            refused("14: heir to " + person, BUSY, x -> x.heir(1, person), BAD);
            refused("14: heir from and to " + person, BUSY, x -> x.heir(person, person), BAD);
            for (int what = 0; what < 5; what++) {
                int w = what;
                refused("16: owe " + person + " " + w, BUSY, x -> x.owe(person, w), BAD);
            }
        }
        for (int person : new int[] {0, 1, 15}) {
            refused("14: heir of oneself " + person, BUSY, x -> x.heir(person, person), BAD);
        }
        refused("13: who is not held", BUSY, x -> x.free(2), 0);
        taken("13: who is held", BUSY, x -> 10 * x.free(1) + x.owe(1, 2), 10);
        taken("13: first and last person", BUSY, x -> x.free(0) + x.free(15), 0);
        taken("14: from the first to the last", BUSY, x -> x.heir(0, 15), 0);
        taken("14: from the last to the first", BUSY, x -> x.heir(15, 0), 0);
        for (int what : new int[] {-1, 5, MIN, MAX}) {
            refused("16: what " + what, BUSY, x -> x.owe(1, what), BAD);
        }
        taken("16: the first of the last person", BUSY, x -> x.owe(15, 0), 0);
        taken("16: the last of the first person", BUSY, x -> x.owe(0, 4), 0);
    }

    private static void abouts() {
        for (int debt : new int[] {-1, 8, 400, MIN, MAX}) {
            refused("15: about " + debt, BUSY, x -> x.about(debt, 0), -2);
        }
        for (int what : new int[] {-1, 7, MIN, MAX}) {
            refused("15: what " + what, BUSY, x -> x.about(0, what), -2);
        }
        taken("15: first debt, first", BUSY, x -> x.about(0, 0), 1);
        taken("15: last debt, last but one", BUSY, x -> x.about(7, 5), 6);
        taken("15: a pardoned debt, last", BUSY, x -> x.about(2, 6), 90);
        taken("15: debt 399", RefusedTest::allDebts, x -> x.about(399, 2), 77);
        refused("15: debt 400", RefusedTest::allDebts, x -> x.about(400, 2), -2);
        refused("15: about none", NEW, x -> x.about(0, 0), -2);
    }

    private static void rolls() {
        for (int line : new int[] {-1, 7, 4000, MIN, MAX}) {
            refused("17: line " + line, BUSY, x -> x.line(line, 0), -2);
        }
        for (int what : new int[] {-1, 8, MIN, MAX}) {
            refused("17: what " + what, BUSY, x -> x.line(0, what), -2);
        }
        taken("17: first line, first", BUSY, x -> x.line(0, 0), 0);
        taken("17: last line, last", BUSY, x -> x.line(6, 7), -1);
        taken("17: the line before, last", BUSY, x -> x.line(5, 7), 2);
        taken("17: line 3999", FULL_ROLL, x -> x.line(3999, 1), 15);
        refused("17: line 4000", FULL_ROLL, x -> x.line(4000, 1), -2);
        refused("17: no lines", NEW, x -> x.line(0, 0), -2);
        for (int debt : new int[] {-1, 8, 400, MIN, MAX}) {
            refused("18: of debt " + debt, BUSY, x -> x.as(debt, 0), -2);
        }
        for (int term : new int[] {-1, 4, 1000, 1001, MIN, MAX}) {
            refused("18: at " + term, BUSY, x -> x.as(0, term), -2);
            refused("18: at " + term + ", one that is not MADE", BUSY, x -> x.as(7, term), -2);
        }
        taken("18: the first debt at first", BUSY, x -> x.as(0, 0), 300);
        taken("18: the first debt now", BUSY, x -> x.as(0, 3), 0);
        taken("18: the last debt now", BUSY, x -> x.as(7, 3), 34);
        refused("18: the last debt before", BUSY, x -> x.as(7, 2), -1);
        refused("18: of none", NEW, x -> x.as(0, 0), -2);
    }

    private static void sticks() {
        for (int stick : new int[] {-1, 3, 2000, MIN, MAX}) {
            refused("19: stick " + stick, BUSY, x -> x.stick(stick, 0), BAD);
            refused("19: sum of stick " + stick, BUSY, x -> x.stick(stick, -1), BAD);
            refused("20: stick " + stick, BUSY, x -> x.fits(stick, 10), BAD);
        }
        for (int what : new int[] {-2, 6, MIN, MAX}) {
            refused("19: what " + what, BUSY, x -> x.stick(0, what), BAD);
        }
        for (int sum : new int[] {-1, 10000001, MIN, MAX}) {
            refused("20: sum " + sum, BUSY, x -> x.fits(0, sum), BAD);
        }
        taken("19: first stick", BUSY, x -> x.stick(0, -1), 10);
        taken("19: last stick", BUSY, x -> x.stick(2, -1), 500);
        taken("19: its last column", BUSY, x -> x.stick(2, 5), 0);
        taken("19: its first column", BUSY, x -> x.stick(2, 0), 8);
        taken("19: stick 1999", ALL_STICKS, x -> x.stick(1999, -1), 1);
        taken("20: stick 1999", ALL_STICKS, x -> x.fits(1999, 1), 6);
        refused("19: stick 2000", ALL_STICKS, x -> x.stick(2000, -1), BAD);
        refused("20: stick 2000", ALL_STICKS, x -> x.fits(2000, 1), BAD);
        refused("19: no sticks", NEW, x -> x.stick(0, 0), BAD);
        refused("20: no sticks", NEW, x -> x.fits(0, 0), BAD);
        refused("20: a foil of nothing", BUSY, x -> x.fits(0, 0), 0);
        refused("20: a foil of all", BUSY, x -> x.fits(0, 10000000), 0);
        refused("20: the last stick's foil", BUSY, x -> x.fits(2, 500), 6);
    }

    private static CrownTable laid(int... sums) {
        CrownTable x = new CrownTable();
        for (int sum : sums) {
            x.lay(sum);
        }
        return x;
    }

    private static void cloths() {
        for (int sum : new int[] {0, -1, 1000001, MIN, MAX}) {
            refused("21: lay " + sum, BUSY, x -> x.lay(sum), BAD);
            refused("22: take " + sum, () -> laid(1000000, 1000000), x -> x.take(sum), BAD);
            refused("22: BAD before NOT, take " + sum, NEW, x -> x.take(sum), BAD);
        }
        for (int column : new int[] {-1, 6, MIN, MAX}) {
            refused("23: column " + column, BUSY, x -> x.cloth(column), BAD);
        }
        refused("22: one of nothing", NEW, x -> x.take(1), NOT);
        refused("22: one more than lies there", BUSY, x -> x.take(122668), NOT);
        refused("22: the most, one less lies there", () -> laid(999999), x -> x.take(1000000), NOT);
        taken("22: all that lies there", BUSY, x -> x.take(122667) + x.sum(0), 0);
        taken("22: the most", () -> laid(1000000), x -> x.take(1000000) + x.sum(0), 0);
        taken("21: the least", NEW, x -> x.lay(1) + x.cloth(0), 1);
        taken("21: the most", NEW, x -> x.lay(1000000) + x.cloth(5), 4);
        taken("23: first column", () -> laid(1000000), x -> x.cloth(0), 4);
    }

    private static void sumsAndCounts() {
        for (int what : new int[] {-1, 7, MIN, MAX}) {
            refused("24: sum " + what, BUSY, x -> x.sum(what), BAD);
        }
        for (int what : new int[] {-1, 6, MIN, MAX}) {
            refused("25: count " + what, BUSY, x -> x.count(what), BAD);
        }
    }

    /** Whoever only asks changes nothing either. */
    private static void questions() {
        refused("5: asking", BUSY, x -> x.statements(0), 5);
        refused("7: asking", BUSY, x -> x.inForce(3), 0);
        refused("8: asking", BUSY, x -> x.would(0, 4, 99), 4);
        refused("15: asking", BUSY, x -> x.about(1, 3), 390);
        refused("16: asking", BUSY, x -> x.owe(1, 0), 500);
        refused("17: asking", BUSY, x -> x.line(4, 4), 300);
        refused("18: asking", BUSY, x -> x.as(1, 1), 390);
        refused("19: asking", BUSY, x -> x.stick(1, 1), 5);
        refused("20: asking", BUSY, x -> x.fits(1, 312), 1);
        refused("23: asking", BUSY, x -> x.cloth(2), 11);
        refused("24: asking", BUSY, x -> x.sum(3), 1077);
        refused("25: asking", BUSY, x -> x.count(1), 7);
    }
}
