/** Promises 1 to 8: a new object, the tape, texts and their faults, force, would. */
public final class TextsTest {
    public static void main(String[] args) {
        newObject();
        tape();
        rightTexts();
        faults();
        limits();
        tenTexts();
        forces();
        manyForces();
        wouldByWords();
        wouldByRank();
        wouldWraps();
        wouldWrong();
        Check.finish();
    }

    private static void newObject() {
        CrownTable x = new CrownTable();
        for (int what = 0; what < 6; what++) {
            Check.due("1: count " + what, x.count(what), 0);
        }
        for (int what = 0; what < 7; what++) {
            Check.due("1: sum " + what, x.sum(what), 0);
        }
        for (int person = 0; person < 16; person++) {
            for (int what = 0; what < 5; what++) {
                Check.due("1: owe " + person + " " + what, x.owe(person, what), 0);
            }
        }
        Check.due("1: in force", x.inForce(0), -1);
        Check.due("1: second term has no farms", x.term() + x.term(), 3);
        Check.due("1: no debts", x.count(0), 0);
    }

    private static void tape() {
        CrownTable x = new CrownTable();
        Check.due("2: feed", x.feed(0x7061793b, 0x20202020, 0x0a0a0a0a, 0x20202020, 0x77616974), 20);
        Check.due("2: the last number's lowest byte is the last", x.text(), -120);
        Check.due("4: tape is empty behind a fault", x.count(5), 0);
        for (int i = 1; i <= 40; i++) {
            Check.due("2: feed " + i, x.feed(-1, 0, 0, 0, 0), 20 * i);
        }
        Check.due("2: FULL", x.feed(0, 0, 0, 0, 0), CrownTable.FULL);
        Check.due("2: FULL changes nothing", x.count(5), 800);
        Check.due("3: BAD above", x.end(801), CrownTable.BAD);
        Check.due("3: BAD below", x.end(-1), CrownTable.BAD);
        Check.due("3: BAD changes nothing", x.count(5), 800);
        Check.due("3: all", x.end(800), 800);
        Check.due("3: one less", x.end(799), 799);
        Check.due("2: still FULL", x.feed(0, 0, 0, 0, 0), CrownTable.FULL);
        Check.due("3: BAD above what is there", x.end(800), CrownTable.BAD);
        Check.due("3: room for twenty", x.end(780), 780);
        Check.due("2: feeds again", x.feed(0, 0, 0, 0, 0), 800);
        Check.due("4: byte 255 at the beginning", x.text(), -100);
        Check.due("3: of an empty tape", x.end(0), 0);
        Check.due("3: BAD of an empty tape", x.end(1), CrownTable.BAD);
    }

    private static void right(String text, int statements) {
        CrownTable x = new CrownTable();
        Check.due("4: " + text, Check.read(x, text), 0);
        Check.due("4: tape is empty behind " + text, x.count(5), 0);
        Check.due("5: " + text, x.statements(0), statements);
    }

    private static void fault(String text, int place) {
        CrownTable x = new CrownTable();
        Check.due("4: " + text, Check.read(x, text), -100 - place);
        Check.due("4: tape is empty behind " + text, x.count(5), 0);
        Check.due("4: no text of " + text, x.count(3), 0);
    }

    private static void rightTexts() {
        right("pay;", 1);
        right(" \n pay \n ; \n ", 1);
        right("pay;wait;quit;call;hold;part 1;part 100;part100;", 8);
        right("part 00100;", 1);
        right("part 000000007;", 1);
        right("if1=1then pay;", 1);
        right("if 000000=999999then part50;", 1);
        right("if owed+all-age*kind<coins*term+year-held then pay;if paid>pledged then wait;", 2);
        right("if not not(((1<2)))and not(1=2 or 2>1)or 1=1 then quit;", 1);
        right("if 1<2 and 2<3 or 3<4 and not 4<5 then call;", 1);
    }

    private static void faults() {
        fault("", 0);
        fault("  \n ", 4);
        fault("pay", 3);
        fault("pay  ", 5);
        fault("pay;;", 4);
        fault(";", 0);
        fault("pa", 0);
        fault("payd;", 0);
        fault("payz;", 0);
        fault("paya;", 0);
        fault("pay`;", 3);
        fault("pay{;", 3);
        fault("part 5/;", 6);
        fault("part 5:;", 6);
        fault("part 59;part 09;part 10a;", 23);
        fault("pay wait;", 4);
        fault("pay;  wai;", 6);
        fault("Pay;", 0);
        fault("pay\t;", 3);
        fault("pay\u00e1;", 3);
        fault("pay\u0000;", 3);
        fault("part;", 4);
        fault("part 0;", 5);
        fault("part 101;", 5);
        fault("part 4294967297;", 5);
        fault("part 1 1;", 7);
        fault("part owed;", 5);
        fault("pay 5;", 4);
        fault("if", 2);
        fault("if then pay;", 3);
        fault("if 1 then pay;", 5);
        fault("if 1=then pay;", 5);
        fault("if 1=1=1 then pay;", 6);
        fault("if 1=1 pay;", 7);
        fault("if 1=1 then;", 11);
        fault("if 1=1 then if 1=1 then pay;", 12);
        fault("if 1==1 then pay;", 5);
        fault("if 1+-1=1 then pay;", 5);
        fault("if -1=1 then pay;", 3);
        fault("if 1 1=1 then pay;", 5);
        fault("if owedall=1 then pay;", 3);
        fault("if pay=1 then pay;", 3);
        fault("if 1=1andnot 1=1 then pay;", 6);
        fault("if (1)=1 then pay;", 5);
        fault("if 1=(1) then pay;", 5);
        fault("if 1=1) then pay;", 6);
        fault("if (1=1 then pay;", 8);
        fault("if (1=1)) then pay;", 8);
        fault("if (1=1)+1=1 then pay;", 8);
        fault("if () then pay;", 4);
        fault("if not then pay;", 7);
        fault("if not=1 then pay;", 6);
        fault("if 1=1 not 1=1 then pay;", 7);
        fault("if 1=1 and then pay;", 11);
        fault("if 1=1 and or 1=1 then pay;", 11);
        fault("if 1=1000000 then pay;", 5);
        fault("if 1=0000001 then pay;", 5);
        fault("if 1=99999999999999999999 then pay;", 5);
        fault("if 1=1 then pay;else wait;", 16);
        fault("if 1=1 then pledged;", 12);
        fault("if pledgedx=1 then pay;", 3);
        fault("if 1/1=1 then pay;", 4);
        fault("waitwaitwait;", 0);
        fault("if 1=1 and (2=2", 15);
        fault("if 1=1 then part", 16);
    }

    private static void limits() {
        right("pay;".repeat(40), 40);
        right("pay;".repeat(40) + "   ", 40);
        fault("pay;".repeat(41), 160);
        fault("pay;".repeat(40) + " xyz", 161);
        fault("pay;".repeat(40) + "\n!", 161);
        right("if " + "not ".repeat(15) + "1=1 then pay;", 1);
        fault("if " + "not ".repeat(16) + "1=1 then pay;", 63);
        right("if " + "(".repeat(15) + "1=1" + ")".repeat(15) + "then pay;", 1);
        fault("if " + "(".repeat(16) + "1=1" + ")".repeat(16) + "then pay;", 18);
        right("if " + "not(".repeat(7) + "not 1=1" + ")".repeat(7) + "then pay;", 1);
        fault("if " + "not(".repeat(7) + "not not 1=1" + ")".repeat(7) + "then pay;", 35);
        right("if " + "not 1=1 and ".repeat(30) + "(1=1) then pay;", 1);
        right("if (" + "not(not 1=1)or ".repeat(30) + "1=1) then pay;", 1);
        right("if " + "(1=1 or 1=1 and ".repeat(15) + "1=1+1*1" + ")".repeat(15) + "then pay;", 1);
        right("if 1" + "*1".repeat(390) + "=1then pay;" + " ".repeat(5), 1);
        fault("if 1" + "+1".repeat(398), 800);
    }

    private static void tenTexts() {
        CrownTable x = new CrownTable();
        for (int text = 0; text < 10; text++) {
            Check.due("5: before it is read", x.statements(text), CrownTable.BAD);
            Check.due("4: number", Check.read(x, "pay;".repeat(text + 1)), text);
            Check.due("5: statements", x.statements(text), text + 1);
        }
        Check.write(x, "faulty");
        Check.due("4: FULL, faulty", x.text(), CrownTable.FULL);
        Check.due("4: FULL, the tape stays", x.count(5), 6);
        x.end(0);
        Check.write(x, "pay;");
        Check.due("4: FULL, right", x.text(), CrownTable.FULL);
        Check.due("4: FULL, the tape stays", x.count(5), 4);
        Check.due("4: texts", x.count(3), 10);
        Check.due("5: BAD above", x.statements(10), CrownTable.BAD);
        Check.due("5: BAD below", x.statements(-1), CrownTable.BAD);
        Check.due("5: BAD far", x.statements(Integer.MAX_VALUE), CrownTable.BAD);
        Check.due("5: BAD far below", x.statements(Integer.MIN_VALUE), CrownTable.BAD);
        Check.due("5: the first stays", x.statements(0), 1);
    }

    private static void forces() {
        CrownTable x = new CrownTable();
        Check.due("6: BAD, no text", x.force(0, 0), CrownTable.BAD);
        for (int text = 0; text < 3; text++) {
            Check.read(x, "pay;");
        }
        Check.due("6: BAD text", x.force(3, 0), CrownTable.BAD);
        Check.due("6: BAD text below", x.force(-1, 0), CrownTable.BAD);
        Check.due("6: BAD term", x.force(0, 1001), CrownTable.BAD);
        Check.due("6: BAD term below", x.force(0, -1), CrownTable.BAD);
        Check.due("6: last term", x.force(0, 1000), 1);
        Check.due("6: later", x.force(1, 10), 1);
        Check.due("6: earlier term, told later", x.force(2, 5), 1);
        Check.due("7: before all", x.inForce(4), -1);
        Check.due("7: at 5", x.inForce(5), 2);
        Check.due("7: at 9", x.inForce(9), 2);
        Check.due("7: at 10 the one told last", x.inForce(10), 2);
        Check.due("7: at 1000 the one told last", x.inForce(1000), 2);
        Check.due("6: again", x.force(1, 7), 1);
        Check.due("7: at 6", x.inForce(6), 2);
        Check.due("7: at 7", x.inForce(7), 1);
        Check.due("7: BAD above", x.inForce(1001), -1);
        Check.due("7: BAD below", x.inForce(-1), -1);
        x.term();
        Check.due("6: BAD, a term gone by", x.force(0, 0), CrownTable.BAD);
        Check.due("6: the term now", x.force(0, 1), 1);
        Check.due("7: now", x.inForce(1), 0);
        Check.due("7: before", x.inForce(0), -1);
    }

    private static void manyForces() {
        CrownTable x = new CrownTable();
        Check.read(x, "pay;");
        for (int i = 0; i < 40; i++) {
            Check.due("6: force " + i, x.force(0, 100 - i), 1);
        }
        Check.due("6: FULL", x.force(0, 0), CrownTable.FULL);
        Check.due("6: BAD before FULL", x.force(1, 0), CrownTable.BAD);
        Check.due("6: FULL changes nothing", x.inForce(60), -1);
        Check.due("7: the last told", x.inForce(61), 0);
    }

    /** Whether a TEST holds of a DEBT with these COINS. */
    private static void holds(CrownTable x, int debt, int coins, String test) {
        int text = Check.read(x, "if " + test + " then pay;");
        Check.due("8: " + test, x.would(text, debt, coins), 0);
        Check.due("8: not " + test, x.would(Check.read(x, "if not(" + test + ")then pay;"), debt, coins), CrownTable.NOT);
    }

    private static void wouldByWords() {
        CrownTable x = new CrownTable();
        x.debt(4, 1, 700, -1);
        Check.terms(x, 3);
        x.debt(4, 3, 250, 9);
        Check.terms(x, 4);
        holds(x, 1, 12, "owed=250 and all=950 and age=4 and kind=3 and coins=12");
        holds(x, 1, 0, "term=7 and year=3 and held=0 and paid=0 and pledged=1 and coins=0");
        holds(x, 0, 10000000, "age=7 and kind=1 and pledged=0 and all=950 and coins=1000*10000");
        Check.read(x, "hold;");
        x.force(6, 7);
        x.come(4, 33);
        holds(x, 0, 5, "held=1 and coins=5 and paid=0");
    }

    private static void wouldByRank() {
        CrownTable x = new CrownTable();
        x.debt(0, 2, 1, -1);
        int text = Check.read(x, "if 1=1 or 1=2 and 1=2 then pay;");
        Check.due("8: and before or", x.would(text, 0, 0), 0);
        text = Check.read(x, "if (1=1 or 1=2)and 1=2 then pay;wait;hold;");
        Check.due("8: ( before and", x.would(text, 0, 0), 1);
        text = Check.read(x, "if not 1=2 and 1=2 then pay;");
        Check.due("8: not before and", x.would(text, 0, 0), CrownTable.NOT);
        text = Check.read(x, "if not 1=1 or 1=1 then pay;");
        Check.due("8: not before or", x.would(text, 0, 0), 0);
        text = Check.read(x, "if 10-2-3=5 and 2+3*4=14 and 2*3+4=10 and 10-2*3+1=5 then pay;");
        Check.due("8: sums from the left, products first", x.would(text, 0, 0), 0);
        text = Check.read(x, "if 1>1 then pay;if 1<1 then pay;if 2<1 then pay;if 1>2 then pay;if 1=2 then pay;if 0-1<0 then wait;");
        Check.due("8: relations", x.would(text, 0, 0), 5);
    }

    private static void wouldWraps() {
        CrownTable x = new CrownTable();
        x.debt(0, 2, 1, -1);
        // 2^63 is 2^21 three times over; no 64 bits hold it, so it comes round to the least number.
        int text = Check.read(x, "if 524288*4*524288*4*524288*4<0 then pay;");
        Check.due("8: products come round", x.would(text, 0, 0), 0);
        text = Check.read(x, "if 524288*4*524288*4*524288*4-1>0 then pay;");
        Check.due("8: sums come round", x.would(text, 0, 0), 0);
        text = Check.read(x, "if 524288*4*524288*4*524288*4*2=0 then pay;");
        Check.due("8: products come round to 0", x.would(text, 0, 0), 0);
        text = Check.read(x, "if 999999*999999=999998000001 then pay;");
        Check.due("4: a number of 12 digits", text, -117);
        text = Check.read(x, "if 999999*999999=999998*1000*1000+1-999998*1000*0 then pay;");
        Check.due("8: products are of more than 32 bits", x.would(text, 0, 0), 0);
    }

    private static void wouldWrong() {
        CrownTable x = Check.houseWith("if kind=1 then quit;");
        x.debt(1, 1, 10, -1);
        x.debt(1, 2, 10, -1);
        Check.due("8: NOT", x.would(0, 1, 0), CrownTable.NOT);
        Check.due("8: BAD text", x.would(1, 0, 0), CrownTable.BAD);
        Check.due("8: BAD text below", x.would(-1, 0, 0), CrownTable.BAD);
        Check.due("8: BAD debt", x.would(0, 2, 0), CrownTable.BAD);
        Check.due("8: BAD debt below", x.would(0, -1, 0), CrownTable.BAD);
        Check.due("8: BAD coins", x.would(0, 0, 10000001), CrownTable.BAD);
        Check.due("8: BAD coins below", x.would(0, 0, -1), CrownTable.BAD);
        Check.due("8: changes nothing", x.count(1) + x.about(0, 6), 0);
        x.come(1, 0);
        Check.due("8: BAD, not OWED", x.would(0, 0, 0), CrownTable.BAD);
    }
}
