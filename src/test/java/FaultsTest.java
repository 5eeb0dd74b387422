import java.util.ArrayList;
import java.util.Arrays;
import java.util.LinkedHashMap;
import java.util.List;
import java.util.Map;

/**
 * What may stand where in a TEXT, wholly: behind each kind of beginning every WORD, SIGN and kind
 * of NUMBER, every byte, every WORD cut short or gone on, and the limits of the text.
 */
public final class FaultsTest {
    private static final String ACTS = "pay part wait quit call hold ";
    private static final String WORDS = "owed all age kind coins term year held paid pledged ";
    private static final String NUMBERS = "0 1 7 99 100 101 999999 000000 ";
    private static final String SHARES = "1 7 99 100 0000001 00000000000100 ";
    private static final String LONG_NUMBERS = "1000000 0000000 0000001 00000000000100 99999999999999999999 ";
    private static final String SIGNS = "; ( ) < = > + - * ";
    private static final String JOINS = "if then and or not ";
    private static final String STRANGE = "els payy P , / . ! & [ _ \u0000 \t \r \u007f \u0080 \u00a0 \u00ff ";
    private static final String PARTS = NUMBERS + WORDS;
    private static final String RECKON = "+ - * ";

    private static final Map<String, String> BEHIND = new LinkedHashMap<>();

    public static void main(String[] args) {
        tellBeginnings();
        for (Map.Entry<String, String> one : BEHIND.entrySet()) {
            behind(one.getKey(), one.getValue());
        }
        ends();
        everyByte();
        everyWord();
        everyLetter();
        everyShare();
        digits();
        statements();
        nestings();
        siblings();
        lengths();
        oneAfterAnother();
        Check.finish();
    }

    /** Beginnings that are right so far, and all that a text could go on with behind each. */
    private static void tellBeginnings() {
        String one = "not ( " + PARTS;
        String statement = "if " + ACTS;
        BEHIND.put("", statement);
        BEHIND.put("pay;", statement);
        BEHIND.put("if 1=1 then part 5;", statement);
        BEHIND.put("pay;".repeat(39), statement);
        BEHIND.put("pay;".repeat(40), "");
        for (String act : ACTS.split(" ")) {
            BEHIND.put(act, act.equals("part") ? SHARES : ";");
            BEHIND.put("if 1=1 then " + act, act.equals("part") ? SHARES : ";");
        }
        BEHIND.put("part 100", ";");
        BEHIND.put("if 1=1 then", ACTS);
        for (String open : new String[] {"if", "if not", "if (", "if not (", "if 1=1 and", "if 1=1 or", "if (1=1 and",
            "if (1=1) or", "if not 1=1 and not", "if 1=1 and 1=1 or", "wait; if"}) {
            BEHIND.put(open, one);
        }
        BEHIND.put("if " + "not ".repeat(14), one);
        BEHIND.put("if " + "not ".repeat(15), PARTS);
        BEHIND.put("if " + "(".repeat(14), one);
        BEHIND.put("if " + "(".repeat(15), PARTS);
        BEHIND.put("if " + "(".repeat(15) + "1=1 and", PARTS);
        BEHIND.put("if " + "(".repeat(15) + "1=1) and", one);
        BEHIND.put("if " + "not ".repeat(15) + "1=1 and", one);
        for (String left : new String[] {"if 1", "if owed", "if 1+1", "if 1*owed-1", "if (1", "if not 1", "if 1=1 and 1"}) {
            BEHIND.put(left, RECKON + "< = > ");
        }
        for (String half : new String[] {"if 1=", "if 1<", "if owed>", "if 1+", "if 1-", "if 1*", "if 1=1+", "if (1=1*"}) {
            BEHIND.put(half, PARTS);
        }
        for (String whole : new String[] {"if 1=1", "if 1<owed", "if 1>1+1", "if 1=1*1-age", "if not 1=1", "if (1=1) and 1=1"}) {
            BEHIND.put(whole, RECKON + "and or then ");
        }
        for (String inside : new String[] {"if (1=1", "if not (1=1", "if (not 1=1", "if ((1=1) or 1=1", "if 1=1 and (1=1"}) {
            BEHIND.put(inside, RECKON + "and or ) ");
        }
        for (String closed : new String[] {"if (1=1)", "if not (1=1)", "if ((1=1))", "if 1=1 and (1=1)"}) {
            BEHIND.put(closed, "and or then ");
        }
        for (String closed : new String[] {"if ((1=1)", "if (not (1=1)", "if ((1=1) and (1=1)"}) {
            BEHIND.put(closed, "and or ) ");
        }
    }

    private static int read(String text) {
        return Check.read(new CrownTable(), text);
    }

    /** A strange byte follows, so that what could go on has its fault just there. */
    private static void behind(String begun, String could) {
        List<String> right = could.isEmpty() ? List.of() : Arrays.asList(could.split(" "));
        for (String next : tokens()) {
            String text = begun + " " + next;
            boolean goesOn = right.contains(next);
            int fault = goesOn ? text.length() + 1 : begun.length() + 1;
            Check.due("4: behind '" + begun + "': " + next, read(text + "\n#"), -100 - fault);
        }
    }

    private static List<String> tokens() {
        List<String> all = new ArrayList<>();
        for (String one : (ACTS + WORDS + NUMBERS + LONG_NUMBERS + SIGNS + JOINS + STRANGE).split(" ")) {
            if (!all.contains(one)) {
                all.add(one);
            }
        }
        return all;
    }

    /** Only behind a whole STATEMENT may a text end; else its fault is its length. */
    private static void ends() {
        for (String begun : BEHIND.keySet()) {
            boolean whole = begun.endsWith(";");
            for (String tail : new String[] {"", " ", "\n", " \n  "}) {
                int due = whole ? 0 : -100 - begun.length() - tail.length();
                Check.due("4: end behind '" + begun + tail + "'", read(begun + tail), due);
            }
        }
    }

    private static void everyByte() {
        for (int b = 0; b < 256; b++) {
            char c = (char) b;
            boolean blank = b == 32 || b == 10;
            boolean letter = b >= 97 && b <= 122;
            boolean digit = b >= 48 && b <= 57;
            Check.due("4: behind a word, byte " + b, read("pay" + c + ";"),
                blank ? 0 : letter ? -100 : c == ';' ? -104 : -103);
            Check.due("4: behind a number, byte " + b, read("part 5" + c + ";"),
                blank || digit ? 0 : c == ';' ? -107 : -106);
            Check.due("4: behind a sign, byte " + b, read("pay;" + c + "pay;"), blank ? 0 : -104);
            Check.due("4: first, byte " + b, read(c + "pay;"), blank ? 0 : -100);
            Check.due("4: last, byte " + b, read("pay;" + c), blank ? 0 : -104);
            Check.due("4: in a word, byte " + b, read("p" + c + "y;"), c == 'a' ? 0 : -100);
            Check.due("4: in a test, byte " + b, read("if 1" + c + "1=1 then pay;"), inTest(c));
        }
    }

    private static int inTest(char c) {
        boolean goesOn = c >= '0' && c <= '9' || "+-*".indexOf(c) >= 0;
        if (c == '<' || c == '=' || c == '>') {
            return -106;
        }
        return goesOn ? 0 : c == ' ' || c == '\n' ? -105 : -104;
    }

    /** A text in which this WORD stands where it may, with its place. */
    private static String around(String word) {
        if (Arrays.asList(ACTS.split(" ")).contains(word)) {
            return word.equals("part") ? "@ 9;" : "@;";
        }
        switch (word) {
            case "if": return "@ 1=1 then pay;";
            case "then": return "if 1=1 @ pay;";
            case "and":
            case "or": return "if 1=1 @ 1=1 then pay;";
            case "not": return "if @ 1=1 then pay;";
            default: return "if @=1 then pay;";
        }
    }

    private static void everyWord() {
        for (String word : (ACTS + WORDS + JOINS).split(" ")) {
            String around = around(word);
            int fault = -100 - around.indexOf('@');
            Check.due("4: " + word, read(around.replace("@", word)), 0);
            for (int letters = 1; letters < word.length(); letters++) {
                String cut = word.substring(0, letters);
                Check.due("4: " + cut + " of " + word, read(around.replace("@", cut)), fault);
                String tail = word.substring(letters);
                Check.due("4: " + tail + " of " + word, read(around.replace("@", tail)), fault);
            }
            for (String more : new String[] {"a", "z", "s", "dd", "xxxx", "xxxxxxxx", word, "then"}) {
                Check.due("4: " + word + more, read(around.replace("@", word + more)), fault);
                Check.due("4: " + more + word, read(around.replace("@", more + word)), fault);
            }
            Check.due("4: great " + word, read(around.replace("@", word.toUpperCase())), fault);
            Check.due("4: parted " + word, read(around.replace("@", word.charAt(0) + " " + word.substring(1))), fault);
        }
    }

    /** A WORD with one letter changed is another one, and no other may stand in its place. */
    private static void everyLetter() {
        for (String word : (ACTS + WORDS + JOINS).split(" ")) {
            String around = around(word);
            int fault = -100 - around.indexOf('@');
            for (int i = 0; i < word.length(); i++) {
                for (char c = 'a'; c <= 'z'; c++) {
                    String changed = word.substring(0, i) + c + word.substring(i + 1);
                    Check.due("4: " + changed + " for " + word, read(around.replace("@", changed)), changed.equals(word) ? 0 : fault);
                }
            }
        }
    }

    private static void everyShare() {
        for (int share = 0; share <= 1100; share++) {
            int due = share >= 1 && share <= 100 ? 0 : -105;
            Check.due("4: part " + share, read("part " + share + ";"), due);
            Check.due("4: then part " + share, read("if 1=1 then part " + share + ";"), due == 0 ? 0 : -117);
        }
        for (String far : new String[] {"1000001", "16777217", "4294967297", "4294967396", "18446744073709551617",
            "1" + "0".repeat(780), "9".repeat(790)}) {
            Check.due("4: part " + far, read("part " + far + ";"), -105);
        }
    }

    private static void digits() {
        for (String right : new String[] {"0", "9", "99999", "000009", "100000", "999999"}) {
            Check.due("4: " + right, read("if " + right + "=" + right + " then pay;"), 0);
        }
        for (String wrong : new String[] {"1000000", "9999999", "0000000", "0000009", "9".repeat(19), "1" + "0".repeat(20), "7".repeat(700)}) {
            Check.due("4: left " + wrong, read("if " + wrong + "=1 then pay;"), -103);
            Check.due("4: right " + wrong, read("if 1=" + wrong + " then pay;"), -105);
            Check.due("4: product " + wrong, read("if 1=2*" + wrong + " then pay;"), -107);
        }
    }

    private static void statements() {
        for (int many = 1; many <= 40; many++) {
            CrownTable x = new CrownTable();
            Check.due("4: " + many + " statements", Check.read(x, "hold;".repeat(many) + " "), 0);
            Check.due("5: " + many + " statements", x.statements(0), many);
            x = new CrownTable();
            Check.read(x, "if 1=1then hold;".repeat(many));
            Check.due("5: " + many + " with tests", x.statements(0), many);
        }
        Check.due("4: a 41st with a test", read("if 1=1then hold;".repeat(41)), -100 - 640);
        Check.due("4: a 41st behind blanks", read("hold;".repeat(40) + "\n  hold;"), -303);
        Check.due("4: a 41st that is faulty itself", read("hold;".repeat(40) + "hold hold"), -300);
        Check.due("4: a fault before a 41st", read("pay;".repeat(39) + "pay,;pay;"), -259);
        Check.due("4: a 42nd is not the first", read("pay;".repeat(42)), -260);
    }

    /** Each row of not and ( of 15 is right, and of 16 has its fault at the last. */
    private static void nestings() {
        for (int mask = 0; mask < 1 << 16; mask += 37) {
            StringBuilder text = new StringBuilder("if ");
            int closes = 0;
            int last = 0;
            for (int i = 0; i < 16; i++) {
                if (i == 15) {
                    String whole = text + "1=1" + ")".repeat(closes) + "then pay;";
                    Check.due("4: " + whole, read(whole), 0);
                }
                boolean open = (mask >> i & 1) == 1;
                last = text.length();
                text.append(open ? "(" : "not ");
                closes += open ? 1 : 0;
            }
            text.append("1=1").append(")".repeat(closes)).append("then pay;");
            Check.due("4: " + text, read(text.toString()), -100 - last);
        }
    }

    /** What is closed counts no more, be it closed by a sign or by the end of its ONE. */
    private static void siblings() {
        String open = "(".repeat(14);
        String close = ")".repeat(14);
        for (String inner : new String[] {"not 1=1 and not 1=1 or not 1=1", "(1=1) and (1=1) or (1=1)",
            "not 1=1 and (1=1) or not 1=1", "(1=1) or not 1=1 and (1=1)"}) {
            Check.due("4: fourteen round " + inner, read("if " + open + inner + close + "then pay;"), 0);
            String deeper = "if (" + open + inner + close + ")then pay;";
            Check.due("4: fifteen round " + inner, read(deeper), -118);
        }
        Check.due("4: anew in each statement", read(("if " + "not ".repeat(15) + "1=1 then pay;").repeat(3)), 0);
        Check.due("4: anew behind or", read("if " + "not ".repeat(15) + "1=1 or " + open + "not 1=1" + close + "then pay;"), 0);
        String behind = "if " + "not ".repeat(15) + "1=1 or " + open + "not ";
        Check.due("4: a 16th behind or", read(behind + "not 1=1" + close + "then pay;"), -100 - behind.length());
        Check.due("4: sixteen that are side by side", read("if " + "(1=1)and ".repeat(16) + "not 1=1 then pay;"), 0);
    }

    private static void lengths() {
        String most = "if owed" + "+1".repeat(391) + "=1then ";
        Check.due("4: all but four of 800 bytes", most.length(), 796);
        Check.due("4: of 800 bytes", read(most + "pay;"), 0);
        Check.due("4: of 800 bytes, without its end", read(most + " pay"), -900);
        Check.due("4: of 800 bytes, the last one is wrong", read(most + "pay."), -899);
        Check.due("4: 799 blanks and a sign", read(" ".repeat(799) + ";"), -899);
        Check.due("4: 800 blanks", read(" ".repeat(800)), -900);
        Check.due("4: 796 blanks before", read(" ".repeat(796) + "pay;"), 0);
        Check.due("4: 796 blanks behind", read("pay;" + "\n".repeat(796)), 0);
        Check.due("4: a word of 800 letters", read("pay".repeat(266) + "pa"), -100);
        Check.due("4: nothing", read(""), -100);
        tapeIsCut();
    }

    /** What stood behind the end of the tape is no part of the text. */
    private static void tapeIsCut() {
        CrownTable x = new CrownTable();
        Check.write(x, "pay;wait;quit;hold;");
        x.end(9);
        Check.due("3: cut behind a statement", x.text() * 10 + x.statements(0), 2);
        Check.write(x, "pay;wait;quit;hold;");
        x.end(8);
        Check.due("3: cut before a sign", x.text(), -108);
        Check.write(x, "pay;wait;");
        x.end(6);
        Check.due("3: cut in a word", x.text(), -104);
        x.feed(0x7061793b, 0x20202020, 0x20202020, 0x20202020, 0x20207175);
        x.feed(0x69743b20, 0x20202020, 0x20202020, 0x20202020, 0x20202020);
        Check.due("2: a word goes on over two feeds", x.text() * 10 + x.statements(1), 12);
    }

    /** A fault leaves nothing behind for the next text, and neither does a text. */
    private static void oneAfterAnother() {
        CrownTable x = new CrownTable();
        x.debt(0, 1, 7, -1);
        String deep = "if " + "not (".repeat(7) + "not owed=7" + ")".repeat(7) + "then pay;";
        for (String faulty : new String[] {"if " + "(".repeat(15) + "1=1", "if " + "not ".repeat(15), "pay;wait;if 1=1 then part",
            "if 1=1 and (1=1 or (1=1 and not", "if 1=1", "if owed+1*2", "if owed=7 then", "pay;".repeat(41)}) {
            Check.due("4: a faulty one", Check.read(x, faulty) <= -100);
            Check.due("4: a deep one behind it", Check.read(x, deep), x.count(3) - 1);
            Check.due("8: asked by it", x.would(x.count(3) - 1, 0, 0), 0);
            Check.due("5: its statements", x.statements(x.count(3) - 1), 1);
        }
    }
}
