/** Promises 9 to 16: shires, debts, terms, coming and its acts, freeing, heirs, what is told of them. */
public final class DebtsTest {
    private static final int BAD = CrownTable.BAD, NOT = CrownTable.NOT, FULL = CrownTable.FULL;

    public static void main(String[] args) {
        shires();
        debts();
        terms();
        termFull();
        comingWithoutText();
        paying();
        parts();
        quitting();
        calling();
        holding();
        telling();
        comingWrong();
        rollFull();
        sticksFull();
        oneTooMany("wait;", 10);
        oneTooMany("part 1;", 5);
        freeing();
        heirs();
        abouts();
        owes();
        Check.finish();
    }

    private static void shires() {
        CrownTable x = new CrownTable();
        Check.due("9: shire", x.shire(0, 100000, 15), 1);
        Check.due("9: last shire", x.shire(7, 1, 0), 1);
        Check.due("9: no sheriff", x.shire(3, 500, -1), 1);
        Check.due("9: no farm", x.shire(4, 0, 2), 1);
        Check.due("9: BAD shire", x.shire(8, 1, 1), BAD);
        Check.due("9: BAD shire below", x.shire(-1, 1, 1), BAD);
        Check.due("9: BAD farm", x.shire(0, 100001, 1), BAD);
        Check.due("9: BAD farm below", x.shire(0, -1, 1), BAD);
        Check.due("9: BAD sheriff", x.shire(0, 1, 16), BAD);
        Check.due("9: BAD sheriff below", x.shire(0, 1, -2), BAD);
        Check.terms(x, 2);
        Check.due("9: debts of shires with both", x.count(0), 2);
        Check.due("9: BAD changed nothing", x.about(0, 2), 100000);
        Check.due("9: sheriff", x.about(0, 0), 15);
        Check.due("11: by shires, rising", x.about(1, 0), 0);
        x.shire(0, 77, -1);
        x.shire(7, 78, 5);
        Check.terms(x, 2);
        Check.due("9: changed", x.count(0), 3);
        Check.due("9: changed farm", x.about(2, 2), 78);
        Check.due("9: changed sheriff", x.about(2, 0), 5);
    }

    private static void debts() {
        CrownTable x = new CrownTable();
        Check.due("10: fine", x.debt(0, 1, 1, -1), 0);
        Check.due("10: relief", x.debt(15, 2, 1000000, -1), 1);
        Check.due("10: pledged", x.debt(3, 3, 5, 0), 2);
        Check.due("10: BAD person", x.debt(16, 1, 1, -1), BAD);
        Check.due("10: BAD person below", x.debt(-1, 1, 1, -1), BAD);
        Check.due("10: BAD kind 0", x.debt(0, 0, 1, -1), BAD);
        Check.due("10: BAD kind 4", x.debt(0, 4, 1, -1), BAD);
        Check.due("10: BAD sum 0", x.debt(0, 1, 0, -1), BAD);
        Check.due("10: BAD sum", x.debt(0, 1, 1000001, -1), BAD);
        Check.due("10: BAD pledge of a fine", x.debt(0, 1, 1, 2), BAD);
        Check.due("10: BAD pledge of a relief", x.debt(0, 2, 1, 0), BAD);
        Check.due("10: BAD pledge -2", x.debt(0, 1, 1, -2), BAD);
        Check.due("10: BAD, pledged by none", x.debt(0, 3, 1, -1), BAD);
        Check.due("10: BAD, pledged by itself", x.debt(4, 3, 1, 4), BAD);
        Check.due("10: BAD pledge", x.debt(4, 3, 1, 16), BAD);
        Check.due("10: BAD changes nothing", x.count(0), 3);
        for (int debt = 3; debt < 400; debt++) {
            Check.due("10: debt " + debt, x.debt(debt % 16, 1, debt, -1), debt);
        }
        Check.due("10: FULL", x.debt(0, 1, 1, -1), FULL);
        Check.due("10: BAD before FULL", x.debt(0, 0, 1, -1), BAD);
        Check.due("10: FULL changes nothing", x.count(0), 400);
        Check.due("10: the last one", x.about(399, 2), 399);
        Check.due("10: the first one", x.about(0, 2), 1);
    }

    private static void terms() {
        CrownTable x = new CrownTable();
        x.shire(5, 30, 1);
        x.shire(2, 20, 1);
        Check.due("11: first", x.term(), 1);
        Check.due("11: none at odd terms", x.count(0), 0);
        Check.due("11: second", x.term(), 2);
        Check.due("11: farms at even terms", x.count(0), 2);
        Check.due("11: least shire first", x.about(0, 2), 20);
        Check.due("11: kind", x.about(1, 1), 0);
        Check.due("11: made", x.about(1, 4), 2);
        Check.due("11: no pledge", x.about(1, 5), -1);
        x.shire(5, 0, -1);
        x.shire(2, 0, -1);
        // Past the 512th call nothing is promised, so TERM 1000 is out of a test's reach.
        for (int term = 3; term <= 480; term++) {
            Check.due("11: term", x.term(), term);
        }
        Check.due("11: count", x.count(4), 480);
    }

    private static void termFull() {
        CrownTable x = new CrownTable();
        for (int debt = 0; debt < 399; debt++) {
            x.debt(0, 1, 1, -1);
        }
        x.shire(0, 1, 1);
        x.shire(1, 1, 1);
        Check.due("11: an odd term is never FULL", x.term(), 1);
        Check.due("11: FULL", x.term(), FULL);
        Check.due("11: FULL changes nothing", x.count(4), 1);
        Check.due("11: FULL adds none", x.count(0), 399);
        x.shire(1, 1, -1);
        Check.due("11: just 400", x.term(), 2);
        Check.due("11: 400", x.count(0), 400);
        Check.due("11: odd again", x.term(), 3);
        Check.due("11: FULL again", x.term(), FULL);
        x.shire(0, 0, 1);
        Check.due("11: none fall due", x.term(), 4);
    }

    private static void comingWithoutText() {
        CrownTable x = new CrownTable();
        x.debt(6, 2, 90, -1);
        Check.due("12: comes", x.come(6, 40), 1);
        Check.due("12: waits", x.line(0, 3), 2);
        Check.due("12: no statement", x.line(0, 5), -1);
        Check.due("12: no text", x.line(0, 6), -1);
        Check.due("12: no stick", x.line(0, 7), -1);
        Check.due("12: credit", x.owe(6, 1), 40);
        Check.due("12: left", x.about(0, 3), 90);
        Check.due("12: NOT twice", x.come(6, 40), NOT);
        Check.due("12: NOT changes nothing", x.sum(6), 40);
        Check.due("12: who owes nothing has no lines", x.come(7, 1000000), 0);
        Check.due("12: but a credit", x.owe(7, 1), 1000000);
        x.term();
        Check.due("12: again at the next term", x.come(6, 0), 1);
        Check.due("12: credit is kept", x.owe(6, 1), 40);
    }

    private static void paying() {
        CrownTable x = Check.houseWith("pay;");
        x.debt(2, 1, 30, -1);
        x.debt(3, 1, 500, -1);
        x.debt(2, 2, 50, -1);
        x.debt(2, 2, 60, -1);
        Check.due("12: three", x.come(2, 70), 3);
        Check.due("12: the first is paid", x.about(0, 3), 0);
        Check.due("12: the second in part", x.about(2, 3), 10);
        Check.due("12: the third not", x.about(3, 3), 60);
        Check.due("12: another's not", x.about(1, 3), 500);
        Check.due("12: paid of the first", x.line(0, 4), 30);
        Check.due("12: paid of the second", x.line(1, 4), 40);
        Check.due("12: paid of the third", x.line(2, 4), 0);
        Check.due("12: act of the third", x.line(2, 3), 0);
        Check.due("12: no stick of nothing", x.line(2, 7), -1);
        Check.due("12: sticks", x.count(2), 2);
        Check.due("12: chest", x.sum(1), 70);
        Check.due("12: no credit", x.owe(2, 1), 0);
        x.term();
        Check.due("12: what is paid is not asked", x.come(2, 1000), 2);
        Check.due("12: the rest is credit", x.owe(2, 1), 930);
        x.debt(2, 1, 1000, -1);
        x.term();
        Check.due("12: with credit and coins", x.come(2, 50), 1);
        Check.due("12: both are paid", x.about(4, 3), 20);
        Check.due("12: credit is used", x.owe(2, 1), 0);
        Check.due("12: brought", x.sum(6), 1120);
    }

    private static void parts() {
        CrownTable x = Check.houseWith("if kind=1 then part 33;if kind=2 then part 100;part 1;");
        x.debt(0, 1, 100, -1);
        x.debt(0, 1, 5, -1);
        x.debt(0, 2, 999999, -1);
        x.debt(0, 3, 99, 1);
        x.debt(0, 1, 1000000, -1);
        Check.due("12: part", x.come(0, 1000000), 5);
        Check.due("12: 33 of 100", x.line(0, 4), 33);
        Check.due("12: 33 of 5, the rest away", x.line(1, 4), 1);
        Check.due("12: part 100", x.line(2, 4), 999966);
        Check.due("12: part 1 of 99", x.line(3, 4), 0);
        Check.due("12: not more than COINS", x.line(4, 4), 0);
        Check.due("12: act", x.line(3, 3), 1);
        Check.due("12: left of 5", x.about(1, 3), 4);
    }

    private static void quitting() {
        CrownTable x = Check.houseWith("if owed<51 then quit;part 50;");
        x.debt(0, 1, 100, -1);
        x.come(0, 1000);
        Check.due("12: half", x.about(0, 3), 50);
        x.term();
        Check.due("12: quit", x.come(0, 0), 1);
        Check.due("12: act", x.line(1, 3), 3);
        Check.due("12: pardoned", x.about(0, 6), 50);
        Check.due("12: nothing is left", x.about(0, 3), 0);
        Check.due("12: nothing is paid", x.line(1, 4), 0);
        Check.due("12: credit stays", x.owe(0, 1), 950);
        Check.due("12: all pardoned", x.sum(4), 50);
        x.term();
        Check.due("12: no more asked", x.come(0, 0), 0);
    }

    private static void calling() {
        CrownTable x = Check.houseWith("call;");
        x.debt(0, 3, 100, 1);
        x.debt(0, 1, 100, -1);
        Check.due("12: call", x.come(0, 0), 2);
        Check.due("12: the pledge owes it", x.about(0, 0), 1);
        Check.due("12: no pledge any more", x.about(0, 5), -1);
        Check.due("12: kind stays", x.about(0, 1), 3);
        Check.due("12: the line has who came", x.line(0, 1), 0);
        Check.due("12: the act", x.line(0, 3), 4);
        Check.due("12: without a pledge nothing", x.about(1, 0), 0);
        Check.due("12: the act all the same", x.line(1, 3), 4);
        Check.due("12: the pledge is asked", x.come(1, 0), 1);
        Check.due("12: and has none to call", x.about(0, 0), 1);
        Check.due("12: nothing is paid", x.sum(1), 0);
    }

    private static void holding() {
        CrownTable x = Check.houseWith("if held=0 then hold;pay;");
        x.debt(9, 1, 10, -1);
        x.debt(9, 1, 20, -1);
        Check.due("12: two", x.come(9, 15), 2);
        Check.due("12: held", x.owe(9, 2), 1);
        Check.due("12: act", x.line(0, 3), 5);
        Check.due("12: held from then on", x.line(1, 3), 0);
        Check.due("12: pays", x.line(1, 4), 15);
        x.term();
        Check.due("12: who is held may come", x.come(9, 100), 2);
        Check.due("12: and pay", x.owe(9, 1), 85);
    }

    /** all, coins and paid are those of the moment in which the DEBT is asked. */
    private static void telling() {
        CrownTable x = Check.houseWith(
            "if all=100 and coins=50 and paid=0 then pay;"
            + "if all=90 and coins=40 and paid=10 then quit;"
            + "if all=70 and coins=40 and paid=10 then call;"
            + "if all=40 and coins=40 and paid=10 then part 50;"
            + "if all=20 and coins=20 and paid=30 then wait;");
        x.debt(0, 1, 10, -1);
        x.debt(0, 1, 20, -1);
        x.debt(1, 1, 999, -1);
        x.debt(0, 3, 30, 1);
        x.debt(0, 1, 39, -1);
        x.debt(0, 1, 1, -1);
        Check.due("12: five", x.come(0, 50), 5);
        Check.due("12: pay", x.line(0, 5), 0);
        Check.due("12: quit", x.line(1, 5), 1);
        Check.due("12: call", x.line(2, 5), 2);
        Check.due("12: part", x.line(3, 5), 3);
        Check.due("12: paid in part", x.line(3, 4), 19);
        Check.due("12: none holds", x.line(4, 5), -1);
        Check.due("12: it waits", x.line(4, 3), 2);
        Check.due("12: of this text", x.line(4, 6), 0);
        Check.due("12: credit", x.owe(0, 1), 21);
        x.term();
        Check.due("12: paid begins anew", x.come(0, 29), 2);
        Check.due("12: none holds again", x.line(5, 5), -1);
    }

    private static void comingWrong() {
        CrownTable x = new CrownTable();
        Check.due("12: BAD person", x.come(16, 0), BAD);
        Check.due("12: BAD person below", x.come(-1, 0), BAD);
        Check.due("12: BAD coins", x.come(0, 1000001), BAD);
        Check.due("12: BAD coins below", x.come(0, -1), BAD);
        Check.due("12: BAD is no coming", x.come(0, 5), 0);
        Check.due("12: BAD before NOT", x.come(0, -1), BAD);
        Check.due("12: coins", x.sum(6), 5);
    }

    private static void rollFull() {
        CrownTable x = new CrownTable();
        Check.fourHundredFarms(x);
        x.heir(0, 1);
        for (int coming = 0; coming < 10; coming++) {
            Check.due("12: 400 lines", x.come(1, 1), 400);
            x.term();
        }
        Check.due("12: lines", x.count(1), 4000);
        Check.due("12: FULL", x.come(1, 1), FULL);
        Check.due("12: FULL is no coming", x.owe(1, 4), 0);
        Check.due("12: FULL brings nothing", x.sum(6), 10);
        Check.due("12: who owes nothing may come", x.come(0, 1), 0);
        Check.due("12: NOT before FULL", x.come(0, 1), NOT);
        Check.due("17: the last line", x.line(3999, 2), 399);
        Check.due("17: its term", x.line(3999, 0), 109);
    }

    private static void sticksFull() {
        CrownTable x = Check.houseWith("part 1;");
        Check.fourHundredFarms(x);
        for (int coming = 0; coming < 5; coming++) {
            Check.due("12: 400 sticks", x.come(0, 1000000), 400);
            x.term();
        }
        Check.due("12: sticks", x.count(2), 2000);
        Check.due("12: FULL", x.come(0, 0), FULL);
        Check.due("12: FULL is no coming", x.owe(0, 4), 0);
        Check.due("12: who owes nothing may come", x.come(1, 1), 0);
        Check.due("19: the last stick", x.stick(1999, -1), 9);
        Check.due("17: the last line's", x.line(1999, 7), 1999);
    }

    /** Person 1 has 399 debts and person 2 one: what they make together just fills the row that is full first. */
    private static void oneTooMany(String text, int comings) {
        CrownTable x = Check.houseWith(text);
        for (int shire = 0; shire < 8; shire++) {
            x.shire(shire, 1000, 1);
        }
        Check.terms(x, 99);
        x.debt(2, 1, 1000, -1);
        x.shire(7, 0, -1);
        x.term();
        for (int shire = 0; shire < 7; shire++) {
            x.shire(shire, 0, -1);
        }
        for (int coming = 0; coming < comings; coming++) {
            Check.due("12: 399", x.come(1, 1000000), 399);
            Check.due("12: and one", x.come(2, 1000), 1);
            x.term();
        }
        Check.due("12: FULL by one", x.come(2, 1000), FULL);
        Check.due("12: lines", x.count(1), 400 * comings);
    }

    private static void freeing() {
        CrownTable x = Check.houseWith("hold;");
        x.debt(15, 1, 10, -1);
        Check.due("13: not held", x.free(15), 0);
        x.come(15, 0);
        Check.due("13: freed", x.free(15), 1);
        Check.due("13: is free", x.owe(15, 2), 0);
        Check.due("13: once", x.free(15), 0);
        Check.due("13: BAD", x.free(16), BAD);
        Check.due("13: BAD below", x.free(-1), BAD);
    }

    private static void heirs() {
        CrownTable x = Check.houseWith("if kind=2 then pay;if kind=1 then hold;");
        x.debt(0, 2, 10, -1);
        x.debt(0, 1, 20, -1);
        x.debt(0, 3, 30, 1);
        x.debt(0, 3, 40, 2);
        x.debt(3, 3, 50, 1);
        x.debt(1, 3, 60, 0);
        x.come(0, 100);
        x.come(1, 5);
        Check.due("14: BAD from", x.heir(16, 1), BAD);
        Check.due("14: BAD to", x.heir(0, 16), BAD);
        Check.due("14: BAD from below", x.heir(-1, 1), BAD);
        Check.due("14: BAD to below", x.heir(0, -1), BAD);
        Check.due("14: BAD, the same", x.heir(0, 0), BAD);
        Check.due("14: three are owed", x.heir(0, 1), 3);
        Check.due("14: what is paid stays", x.about(0, 0), 0);
        Check.due("14: goes", x.about(1, 0), 1);
        Check.due("14: the heir is no pledge", x.about(2, 5), -1);
        Check.due("14: another pledge stays", x.about(3, 5), 2);
        Check.due("14: another's pledge stays", x.about(4, 5), 1);
        Check.due("14: the heir's own pledge stays", x.about(5, 5), 0);
        Check.due("14: credit goes", x.owe(0, 1), 0);
        Check.due("14: credit comes", x.owe(1, 1), 95);
        Check.due("14: held stays", x.owe(0, 2), 1);
        Check.due("14: held does not go", x.owe(1, 2), 0);
        Check.due("14: coming does not go", x.heir(1, 8), 4);
        Check.due("14: the heir may come", x.come(8, 0), 4);
        Check.due("14: nothing to go", x.heir(0, 8), 0);
    }

    private static void abouts() {
        CrownTable x = Check.houseWith("part 10;");
        x.term();
        x.debt(4, 3, 1000, 6);
        x.come(4, 1000);
        int[] want = {4, 3, 1000, 900, 1, 6, 0};
        for (int what = 0; what < 7; what++) {
            Check.due("15: about " + what, x.about(0, what), want[what]);
        }
        Check.due("15: BAD debt", x.about(1, 0), -2);
        Check.due("15: BAD debt below", x.about(-1, 0), -2);
        Check.due("15: BAD what", x.about(0, 7), -2);
        Check.due("15: BAD what below", x.about(0, -1), -2);
        Check.due("15: BAD far", x.about(Integer.MAX_VALUE, Integer.MIN_VALUE), -2);
    }

    private static void owes() {
        CrownTable x = Check.houseWith("if kind=1 then hold;if owed=7 then pay;");
        for (int i = 0; i < 300; i++) {
            x.debt(5, 2, 1000000, -1);
        }
        x.debt(5, 1, 3, -1);
        x.debt(5, 2, 7, -1);
        Check.due("16: has not come", x.owe(5, 4), 0);
        x.come(5, 10);
        long[] want = {300000003L, 3, 1, 301, 1};
        for (int what = 0; what < 5; what++) {
            Check.due("16: owe " + what, x.owe(5, what), want[what]);
        }
        x.term();
        Check.due("16: has not come at this term", x.owe(5, 4), 0);
        Check.due("16: BAD person", x.owe(16, 0), BAD);
        Check.due("16: BAD person below", x.owe(-1, 0), BAD);
        Check.due("16: BAD what", x.owe(0, 5), BAD);
        Check.due("16: BAD what below", x.owe(0, -1), BAD);
    }
}
