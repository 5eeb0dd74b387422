/**
 * The edges of what a TEST is told and how it is reckoned, of the ACTS and of COMING, of FORCE, and
 * of what falls due: the last case on one side and the first on the other.
 */
public final class AskingTest {
    private static final int BAD = CrownTable.BAD, NOT = CrownTable.NOT;

    // 2 to the power of 21, 31 and 62: the greatest that 64 bits hold is one less than twice the last.
    private static final String P21 = "524288*4";
    private static final String P31 = P21 + "*1024";
    private static final String P62 = P31 + "*" + P31;

    public static void main(String[] args) {
        relations();
        sumsComeRound();
        productsComeRound();
        factsAtTheirEdges();
        years();
        firstStatement();
        longTexts();
        allAsItIsAsked();
        pays();
        parts();
        smallDebts();
        quits();
        calls();
        holds();
        creditAndCoins();
        paidSoFar();
        textOfTheTerm();
        laterForces();
        onceATerm();
        farmsOfEvenTerms();
        heirsAndPledges();
        lastTerm();
        manyHouses();
        Check.finish();
    }

    /** A TEST of nothing but numbers. */
    private static void test(String test, boolean holds) {
        CrownTable x = new CrownTable();
        x.debt(0, 1, 1, -1);
        int text = Check.read(x, "if " + test + " then pay;");
        Check.due("8: " + test, text < 0 ? text : x.would(text, 0, 0), holds ? 0 : NOT);
    }

    private static void relations() {
        int[][] pairs = {{0, 0}, {0, 1}, {1, 0}, {999999, 999999}, {999998, 999999}, {999999, 999998}};
        for (int[] pair : pairs) {
            test(pair[0] + "<" + pair[1], pair[0] < pair[1]);
            test(pair[0] + "=" + pair[1], pair[0] == pair[1]);
            test(pair[0] + ">" + pair[1], pair[0] > pair[1]);
            test("0-" + pair[0] + "<0-" + pair[1], -pair[0] < -pair[1]);
            test("0-" + pair[0] + ">0-" + pair[1], -pair[0] > -pair[1]);
        }
        for (int row = 0; row < 8; row++) {
            boolean a = (row & 1) != 0;
            boolean b = (row & 2) != 0;
            boolean c = (row & 4) != 0;
            String tests = say(a) + " and " + say(b) + " or " + say(c);
            test(tests, a && b || c);
            test("not " + tests, !a && b || c);
            test("not(" + tests + ")", !(a && b || c));
            test(say(a) + " or " + say(b) + " and " + say(c), a || b && c);
            test("(" + say(a) + " or " + say(b) + ")and " + say(c), (a || b) && c);
            test(say(a) + " and not(" + say(b) + " or not " + say(c) + ")", a && !(b || !c));
        }
        test("1<2 and 1=1 and 2>1", true);
        test("1=1 and 1<2", true);
        test("1=1 and not 1<2", false);
        test("2>1 and not 2>1", false);
        test("not 1<2 or not 2>1 or not 1=1", false);
        test("not ".repeat(15) + "1=1", false);
        test("not ".repeat(14) + "1=1", true);
    }

    private static String say(boolean right) {
        return right ? "1=1" : "1=2";
    }

    private static void sumsComeRound() {
        test(P62 + "+" + P62 + "-1>0", true);
        test(P62 + "-1+" + P62 + ">0", true);
        test(P62 + "+" + P62 + "<0", true);
        test(P62 + "+" + P62 + "=0-" + P62 + "-" + P62, true);
        test("0-" + P62 + "-" + P62 + "<0", true);
        test("0-" + P62 + "-" + P62 + "-1>0", true);
        test("0-" + P62 + "-" + P62 + "-1=" + P62 + "-1+" + P62, true);
        test(P62 + "+" + P62 + "+" + P62 + "+" + P62 + "=0", true);
        // The least and the greatest are farther apart than 64 bits tell.
        test(P62 + "-1+" + P62 + ">0-" + P62 + "-" + P62, true);
        test("0-" + P62 + "-" + P62 + "<" + P62 + "-1+" + P62, true);
        test("0-" + P62 + "-" + P62 + ">" + P62 + "-1+" + P62, false);
    }

    private static void productsComeRound() {
        test(P62 + ">0", true);
        test(P62 + "*2<0", true);
        test(P62 + "*4=0", true);
        test(P62 + "*3<0", true);
        test(P62 + "*5=" + P62, true);
        test(P31 + "*2=" + P31 + "+" + P31, true);
        test(P31 + ">0", true);
        test(P31 + "*2>" + P31, true);
        test(P31 + "*2=0", false);
        // 7 * 7 * 73 * 127 * 337 * 92737 * 649657 is 2 to the power of 63, less 1.
        test("7*7*73*127*337*92737*649657>0", true);
        test("7*7*73*127*337*92737*649657+1<0", true);
        test("7*7*73*127*337*92737*649657*2=0-2", true);
        test("999999*999999*999999>0", true);
        test("999999*999999*999999*10<0", true);
    }

    /** A debt of 1000000 asked with the most coins, and one of 1 with none. */
    private static void factsAtTheirEdges() {
        CrownTable x = new CrownTable();
        x.debt(0, 1, 1000000, -1);
        x.debt(1, 3, 1, 0);
        x.debt(0, 2, 1, -1);
        String most = "if owed=1000*1000 and all=1000*1000+1 and coins=10000*1000 and kind=1 and pledged=0 then pay;";
        Check.due("8: the most", x.would(Check.read(x, most), 0, 10000000), 0);
        Check.due("8: one less", x.would(0, 0, 9999999), NOT);
        String least = "if owed=1 and all=1 and age=0 and kind=3 and coins=0 and term=0 and year=0 and held=0"
            + " and paid=0 and pledged=1 then pay;";
        Check.due("8: the least", x.would(Check.read(x, least), 1, 0), 0);
        Check.due("8: of another", x.would(1, 2, 0), NOT);
        x.term();
        Check.due("8: a term later", x.would(1, 1, 0), NOT);
        Check.due("8: age and term", x.would(Check.read(x, "if age=1 and term=1 and year=0 then pay;"), 1, 0), 0);
    }

    private static void years() {
        CrownTable x = new CrownTable();
        x.term();
        x.debt(0, 1, 1, -1);
        Check.read(x, "if year=0 then pay;if year=1 then pay;if year=2 then pay;if year=3 then pay;");
        Check.read(x, "if age=0 then pay;if age=1 then pay;if age=2 then pay;if age=3 then pay;");
        for (int term = 1; term <= 4; term++) {
            Check.due("8: year at " + term, x.would(0, 0, 0), term / 2);
            Check.due("8: age at " + term, x.would(1, 0, 0), term - 1);
            x.term();
        }
    }

    private static void firstStatement() {
        CrownTable x = new CrownTable();
        x.debt(0, 1, 40, -1);
        x.debt(0, 1, 41, -1);
        x.debt(0, 1, 1, -1);
        int many = 40;
        StringBuilder text = new StringBuilder();
        for (int i = 1; i <= many; i++) {
            text.append("if owed=").append(i).append(i == many ? "then wait;" : "then pay;");
        }
        int read = Check.read(x, text.toString());
        Check.due("8: the last of 40", x.would(read, 0, 0), 39);
        Check.due("8: none of 40", x.would(read, 1, 0), NOT);
        Check.due("8: the first of 40", x.would(read, 2, 0), 0);
        int alone = Check.read(x, "if owed=41 then quit;pay;wait;if owed=40 then hold;");
        Check.due("8: an act alone always", x.would(alone, 0, 0), 1);
        Check.due("8: one before it", x.would(alone, 1, 0), 0);
    }

    /** Ten texts of some 800 bytes each are told apart to their last byte. */
    private static void longTexts() {
        CrownTable x = new CrownTable();
        x.debt(0, 1, 1, -1);
        for (int text = 0; text < 10; text++) {
            String sum = "owed" + "*1".repeat(380) + "=" + text % 2;
            Check.due("4: long text", Check.read(x, "if " + sum + " then pay;wait;"), text);
        }
        for (int text = 0; text < 10; text++) {
            Check.due("8: long text " + text, x.would(text, 0, 0), 1 - text % 2);
        }
    }

    /** What is paid, pardoned or called of a debt is no part of all when the next one is asked. */
    private static void allAsItIsAsked() {
        allBehindEachAct("wait", 0, 900);
        allBehindEachAct("hold", 0, 900);
        allBehindEachAct("quit", 0, 800);
        allBehindEachAct("pay", 100, 800);
        allBehindEachAct("part 30", 30, 870);
        allBehindEachAct("call", 0, 800);
    }

    /** Of 100, which is left of 200, and of 800 the first has been asked. */
    private static void allBehindEachAct(String act, int paid, int all) {
        CrownTable x = Check.houseWith("if owed=200 then part 50;if owed=100 then " + act + ";"
            + "if all=" + all + " and paid=" + paid + " then quit;");
        x.debt(3, 1, 1, -1);
        x.debt(9, 3, 200, 1);
        x.debt(9, 1, 800, -1);
        x.come(9, 100);
        x.term();
        x.come(9, 500);
        Check.due("12: act is " + act, x.line(2, 5), 1);
        Check.due("12: all behind " + act, x.line(3, 5), 2);
        Check.due("16: left behind " + act, x.owe(9, 0), all - 800);
        Check.due("15: pardoned by " + act, x.about(1, 6), act.equals("quit") ? 100 : 0);
        Check.due("15: pardoned behind " + act, x.about(2, 6), 800);
    }

    /** One debt, one coming: what is paid, left, and kept as credit. */
    private static void asked(String text, int sum, int coins, int paid) {
        String what = "12: " + text + " of " + sum + " with " + coins;
        CrownTable x = Check.houseWith(text);
        x.debt(3, 2, sum, -1);
        Check.due(what, x.come(3, coins), 1);
        Check.due(what + ": paid", x.line(0, 4), paid);
        Check.due(what + ": left", x.about(0, 3), sum - paid);
        Check.due(what + ": credit", x.owe(3, 1), coins - paid);
        Check.due(what + ": chest", x.sum(1), paid);
        Check.due(what + ": stick of the line", x.line(0, 7), paid > 0 ? 0 : -1);
        Check.due(what + ": sticks", x.count(2), paid > 0 ? 1 : 0);
        Check.due(what + ": its sum", x.stick(0, -1), paid > 0 ? paid : BAD);
        Check.due(what + ": owed debts", x.owe(3, 3), paid < sum ? 1 : 0);
        Check.due(what + ": as of now", x.as(0, 0), sum - paid);
        Check.due(what + ": not pardoned", x.about(0, 6), 0);
    }

    private static void pays() {
        for (int sum : new int[] {1, 2, 1000, 999999, 1000000}) {
            for (int coins : new int[] {0, 1, sum - 1, sum, Math.min(sum + 1, 1000000), 1000000}) {
                asked("pay;", sum, coins, Math.min(sum, coins));
            }
            asked("wait;", sum, 1000000, 0);
            asked("call;", sum, 1000000, 0);
            asked("hold;", sum, 1000000, 0);
        }
    }

    private static void parts() {
        for (int share : new int[] {1, 2, 33, 50, 99, 100}) {
            for (int sum : new int[] {1, 2, 49, 50, 99, 100, 101, 199, 200, 999999, 1000000}) {
                int part = (int) ((long) sum * share / 100);
                String text = "part " + share + ";";
                asked(text, sum, 1000000, part);
                asked(text, sum, part, part);
                asked(text, sum, 0, 0);
                asked(text, sum, Math.max(part - 1, 0), Math.max(part - 1, 0));
                asked(text, sum, Math.min(part + 1, 1000000), part);
            }
        }
    }

    /** A debt is asked as long as a penny is left of it, and no longer. */
    private static void smallDebts() {
        CrownTable x = Check.houseWith("pay;");
        x.debt(0, 1, 2, -1);
        Check.due("12: two are left", x.come(0, 1), 1);
        x.term();
        Check.due("12: one is left", x.come(0, 0), 1);
        x.term();
        Check.due("12: it is paid", x.come(0, 1), 1);
        Check.due("12: owed no more", x.owe(0, 3), 0);
        x.term();
        Check.due("12: nothing is left", x.come(0, 5), 0);
        Check.due("12: no line of it", x.count(1), 3);
        Check.due("12: what was brought is credit", x.owe(0, 1), 5);
        Check.due("8: BAD, not OWED", x.would(0, 0, 0), BAD);
        Check.due("14: does not go", x.heir(0, 1), 0);
        Check.due("14: is the person's still", x.about(0, 0), 0);
    }

    private static void quits() {
        for (int sum : new int[] {1, 1000000}) {
            CrownTable x = Check.houseWith("quit;");
            x.debt(0, 1, sum, -1);
            x.come(0, 1000000);
            Check.due("12: pardoned " + sum, x.about(0, 6), sum);
            Check.due("12: nothing left", x.about(0, 3), 0);
            Check.due("12: nothing paid", x.line(0, 4), 0);
            Check.due("12: no stick", x.line(0, 7), -1);
            Check.due("12: credit", x.owe(0, 1), 1000000);
            Check.due("24: pardoned", x.sum(4), sum);
            Check.due("18: as of now", x.as(0, 0), 0);
        }
    }

    /** Asked by the numbers of the debts, those that were OWED when the person came. */
    private static void calls() {
        CrownTable x = Check.houseWith("if pledged=1 then call;pay;");
        x.debt(1, 1, 10, -1);
        x.debt(0, 3, 20, 1);
        x.debt(1, 3, 30, 0);
        Check.due("12: one of 0", x.come(0, 100), 1);
        Check.due("12: 1 has three now", x.owe(1, 3), 3);
        Check.due("12: all three are asked", x.come(1, 25), 3);
        int[] debts = {1, 0, 1, 2};
        int[] paid = {0, 10, 15, 0};
        int[] acts = {4, 0, 0, 4};
        for (int line = 0; line < 4; line++) {
            Check.due("12: debt of line " + line, x.line(line, 2), debts[line]);
            Check.due("12: paid by line " + line, x.line(line, 4), paid[line]);
            Check.due("12: act of line " + line, x.line(line, 3), acts[line]);
        }
        Check.due("12: 0 came already", x.come(0, 0), NOT);
        Check.due("12: and owes what was called", x.owe(0, 0), 30);
        x.term();
        Check.due("12: at the next term", x.come(0, 0), 1);
        Check.due("12: nobody to call", x.line(4, 3), 0);
        Check.due("12: of credit", x.owe(0, 1), 70);
    }

    private static void holds() {
        CrownTable x = Check.houseWith("if held=1 then pay;hold;");
        x.debt(0, 1, 5, -1);
        x.debt(1, 1, 6, -1);
        x.come(0, 9);
        Check.due("12: held", x.owe(0, 2), 1);
        Check.due("12: another is not", x.owe(1, 2), 0);
        Check.due("8: held is told", x.would(0, 0, 0), 0);
        Check.due("8: of its person", x.would(0, 1, 0), 1);
        Check.due("13: freed", x.free(0), 1);
        Check.due("8: held no more", x.would(0, 0, 0), 1);
        x.term();
        x.come(0, 0);
        Check.due("12: held anew", x.free(0), 1);
        Check.due("12: has paid nothing", x.owe(0, 1), 9);
    }

    /** COINS are the coins and the CREDIT, so they may be more than can be brought. */
    private static void creditAndCoins() {
        CrownTable x = Check.houseWith("if coins>1000*1000 then pay;");
        for (int term = 0; term < 3; term++) {
            x.come(0, 1000000);
            x.term();
        }
        Check.due("12: credit of three", x.owe(0, 1), 3000000);
        x.debt(0, 1, 1000000, -1);
        x.debt(0, 1, 1000000, -1);
        x.debt(0, 1, 999999, -1);
        x.debt(0, 1, 7, -1);
        x.come(0, 0);
        Check.due("12: credit is paid with", x.line(2, 4), 0);
        Check.due("12: a million is not more than one", x.line(2, 5), -1);
        Check.due("12: what is left of it", x.owe(0, 1), 1000000);
        x.term();
        x.come(0, 1);
        Check.due("12: one more", x.owe(0, 1), 2);
        Check.due("24: brought", x.sum(6), 3000001);
        Check.due("24: chest", x.sum(1), 2999999);
        Check.due("24: credits", x.sum(2), 2);
    }

    private static void paidSoFar() {
        CrownTable x = Check.houseWith("if paid<10 then pay;if paid=10 then part 50;if paid>14 then quit;");
        x.debt(0, 1, 9, -1);
        x.debt(0, 1, 1, -1);
        x.debt(0, 1, 10, -1);
        x.debt(0, 1, 10, -1);
        Check.due("12: four", x.come(0, 100), 4);
        int[] statements = {0, 0, 1, 2};
        for (int line = 0; line < 4; line++) {
            Check.due("12: statement of line " + line, x.line(line, 5), statements[line]);
        }
        x.term();
        x.come(0, 0);
        Check.due("12: a new coming has paid nothing", x.line(4, 5), 0);
        Check.due("12: and pays of credit", x.line(4, 4), 5);
    }

    private static void textOfTheTerm() {
        CrownTable x = new CrownTable();
        for (String text : new String[] {"part 1;", "part 2;", "part 3;"}) {
            Check.read(x, text);
        }
        x.debt(0, 1, 100000, -1);
        Check.due("6: from 1", x.force(0, 1), 1);
        Check.due("6: from 3", x.force(1, 3), 1);
        Check.due("6: again from 3", x.force(2, 3), 1);
        int[] texts = {-1, 0, 0, 2, 2};
        for (int term = 0; term < texts.length; term++) {
            x.come(0, 100000);
            Check.due("7: at " + term, x.inForce(term), texts[term]);
            Check.due("12: text of term " + term, x.line(term, 6), texts[term]);
            Check.due("12: statement of term " + term, x.line(term, 5), texts[term] < 0 ? -1 : 0);
            Check.due("12: act of term " + term, x.line(term, 3), texts[term] < 0 ? 2 : 1);
            x.term();
        }
    }

    /** One told later holds from its TERM on, even if one told before it is for a later TERM. */
    private static void laterForces() {
        CrownTable x = new CrownTable();
        Check.read(x, "pay;");
        Check.read(x, "wait;");
        x.force(0, 4);
        x.force(1, 2);
        int[] first = {-1, -1, 1, 1, 1, 1};
        for (int term = 0; term < first.length; term++) {
            Check.due("7: told later for an earlier term, at " + term, x.inForce(term), first[term]);
        }
        x.force(0, 5);
        Check.due("7: before the third", x.inForce(4), 1);
        Check.due("7: from the third on", x.inForce(5), 0);
        Check.terms(x, 6);
        Check.due("7: a term gone by, as it was told", x.inForce(4), 1);
        Check.due("6: now", x.force(1, 6), 1);
        Check.due("7: gone by is as before", x.inForce(5), 0);
        Check.due("7: now", x.inForce(6), 1);
    }

    private static void onceATerm() {
        CrownTable x = new CrownTable();
        for (int person = 0; person < 16; person++) {
            Check.due("16: has not come " + person, x.owe(person, 4), 0);
            Check.due("12: comes " + person, x.come(person, person), 0);
            Check.due("16: came " + person, x.owe(person, 4), 1);
            Check.due("12: NOT " + person, x.come(person, 1), NOT);
            Check.due("12: credit " + person, x.owe(person, 1), person);
        }
        Check.due("24: brought", x.sum(6), 120);
        Check.due("24: credits of all persons", x.sum(2), 120);
        x.heir(3, 4);
        Check.due("14: who came has come", x.owe(3, 4) + x.owe(4, 4), 2);
        x.term();
        for (int person = 0; person < 16; person++) {
            Check.due("16: has not come yet " + person, x.owe(person, 4), 0);
        }
        Check.due("12: comes again", x.come(0, 0), 0);
    }

    private static void farmsOfEvenTerms() {
        CrownTable x = new CrownTable();
        for (int shire = 7; shire >= 0; shire--) {
            x.shire(shire, 100 + shire, 15 - shire);
        }
        Check.due("11: none at TERM 0", x.count(0), 0);
        for (int term = 1; term <= 6; term++) {
            Check.due("11: term", x.term(), term);
            Check.due("11: debts at " + term, x.count(0), term / 2 * 8);
        }
        for (int debt = 0; debt < 24; debt++) {
            int shire = debt % 8;
            int[] want = {15 - shire, 0, 100 + shire, 100 + shire, debt / 8 * 2 + 2, -1, 0};
            for (int what = 0; what < 7; what++) {
                Check.due("11: farm " + debt + " " + what, x.about(debt, what), want[what]);
            }
        }
        x.shire(3, 0, 5);
        x.shire(4, 5, -1);
        Check.terms(x, 2);
        Check.due("11: two fewer", x.count(0), 30);
        Check.due("11: before them", x.about(26, 2), 102);
        Check.due("11: behind them", x.about(27, 2), 105);
    }

    private static void heirsAndPledges() {
        CrownTable x = new CrownTable();
        x.debt(0, 3, 1, 15);
        x.debt(0, 3, 2, 14);
        x.debt(14, 3, 3, 0);
        x.debt(14, 3, 4, 15);
        x.debt(15, 3, 5, 0);
        Check.due("14: two go", x.heir(0, 15), 2);
        int[] persons = {15, 15, 14, 14, 15};
        int[] pledges = {-1, 14, 0, 15, 0};
        for (int debt = 0; debt < 5; debt++) {
            Check.due("14: person of " + debt, x.about(debt, 0), persons[debt]);
            Check.due("14: pledge of " + debt, x.about(debt, 5), pledges[debt]);
            Check.due("14: kind of " + debt, x.about(debt, 1), 3);
        }
        Check.due("14: three go back", x.heir(15, 0), 3);
        Check.due("14: a pledge that is the heir", x.about(4, 5), -1);
        Check.due("14: a pledge that is none", x.about(0, 5), -1);
        Check.due("14: a pledge that is another", x.about(1, 5), 14);
        Check.due("14: none are left", x.heir(15, 1), 0);
    }

    /** Past the 512th call a house may answer what it likes, but TERM 1000 is nowhere else. */
    private static void lastTerm() {
        CrownTable x = new CrownTable();
        for (int term = 1; term <= 1000; term++) {
            Check.due("11: term", x.term(), term);
        }
        Check.due("11: BAD behind the last", x.term(), BAD);
        Check.due("11: BAD changes nothing", x.count(4), 1000);
        x.shire(0, 1, 1);
        Check.due("11: BAD again", x.term(), BAD);
        Check.due("11: BAD brings no farms", x.count(0), 0);
    }

    /** No house knows of another. */
    private static void manyHouses() {
        CrownTable x = Check.houseWith("pay;");
        CrownTable y = new CrownTable();
        x.feed(1, 2, 3, 4, 5);
        x.debt(0, 1, 5, -1);
        x.come(0, 9);
        x.lay(5);
        x.term();
        for (int what = 0; what < 6; what++) {
            Check.due("1: count " + what, y.count(what), 0);
            Check.due("1: sum " + what, y.sum(what), 0);
        }
        Check.due("1: nobody came", y.owe(0, 4), 0);
        Check.due("1: none in force", y.inForce(1000), -1);
        Check.due("1: no text", y.statements(0), BAD);
        Check.due("1: a text of its own", Check.read(y, "wait;quit;"), 0);
        Check.due("1: the other's stays", x.statements(0), 1);
    }
}
