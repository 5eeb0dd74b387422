import java.nio.charset.StandardCharsets;
import java.util.Random;

/** Runs of up to 512 calls, drawn from fixed seeds, on CrownTable and on PlainHouse: all answers are the same. */
public final class RandomRunsTest {
    // The last turn may bring a whole text, and the sums are asked behind it, all within 512 calls.
    private static final int CALLS = 512 - 50;
    private static final String[] WORDS = {"pay", "part", "wait", "quit", "call", "hold", "if", "then", "and", "or",
        "not", "owed", "all", "age", "kind", "coins", "term", "year", "held", "paid", "pledged",
        ";", "(", ")", "<", "=", ">", "+", "-", "*", "0", "1", "100", "101", "999999", "1000000", "\t", "A", "xyz"};
    private static final int[] ODD = {-1, -2, 0, 1, 5, 6, 7, 15, 16, 17, 399, 400, 1000, 1001, 1000000, 1000001,
        10000000, 10000001, Integer.MAX_VALUE, Integer.MIN_VALUE};

    private final Random random;
    private final CrownTable house = new CrownTable();
    private final PlainHouse plain = new PlainHouse();
    private final String run;
    private final int style;
    private int calls = 0;

    private RandomRunsTest(long seed) {
        random = new Random(seed);
        run = "run " + seed + ", call ";
        style = (int) (seed % 4);
    }

    public static void main(String[] args) {
        for (long seed = 0; seed < 1200 && Check.wrongSoFar() < 20; seed++) {
            new RandomRunsTest(seed).play();
        }
        Check.finish();
    }

    private void play() {
        if (style == 1) {
            for (int shire = 0; shire < 8; shire++) {
                int farm = random.nextInt(20000);
                int sheriff = random.nextInt(3);
                same("shire", house.shire(shire, farm, sheriff), plain.shire(shire, farm, sheriff));
            }
        }
        while (calls < CALLS && Check.wrongSoFar() < 20) {
            call();
        }
        Check.due(run + "sums: paid, left and pardoned", house.sum(1) + house.sum(3) + house.sum(4), house.sum(5));
        Check.due(run + "sums: chest and credits", house.sum(1) + house.sum(2), house.sum(6));
    }

    private void same(String what, long got, long want) {
        calls++;
        Check.due(run + calls + " " + what, got, want);
    }

    private int upTo(int most) {
        return random.nextInt(24) == 0 ? ODD[random.nextInt(ODD.length)] : random.nextInt(most + 1);
    }

    private int person() {
        return style == 1 ? upTo(3) : style == 2 ? upTo(5) : upTo(15);
    }

    private int money() {
        return random.nextBoolean() ? upTo(300) : upTo(1000000);
    }

    private int one(int count) {
        return upTo(Math.max(0, count - 1));
    }

    private void call() {
        int kind = random.nextInt(100);
        if (kind < 12) {
            textCalls();
        } else if (kind < 55) {
            houseCalls();
        } else if (kind < 85) {
            askingCalls();
        } else {
            clothCalls();
        }
    }

    private void textCalls() {
        switch (random.nextInt(5)) {
            case 0:
            case 1:
                readText(random.nextInt(3) == 0 ? spoilt(rightText()) : rightText());
                break;
            case 2:
                int text = one(plain.count(3));
                int from = plain.count(4) + random.nextInt(4) - (random.nextInt(10) == 0 ? 1 : 0);
                same("force " + text + " " + from, house.force(text, from), plain.force(text, from));
                break;
            case 3:
                int any = random.nextInt();
                same("feed", house.feed(any, any, any, any, any), plain.feed(any, any, any, any, any));
                same("end", house.end(0), plain.end(0));
                break;
            default:
                int n = one(plain.count(3));
                same("statements " + n, house.statements(n), plain.statements(n));
                int at = upTo(plain.count(4) + 4);
                same("inForce " + at, house.inForce(at), plain.inForce(at));
        }
    }

    private void readText(String text) {
        byte[] bytes = text.getBytes(StandardCharsets.ISO_8859_1);
        int most = Math.min(bytes.length, 800);
        same("end", house.end(0), plain.end(0));
        for (int from = 0; from < most; from += 20) {
            int[] five = new int[5];
            for (int i = 0; i < 5; i++) {
                five[i] = Check.four(bytes, from + 4 * i);
            }
            same("feed", house.feed(five[0], five[1], five[2], five[3], five[4]),
                plain.feed(five[0], five[1], five[2], five[3], five[4]));
        }
        same("end", house.end(most), plain.end(most));
        same("text " + text, house.text(), plain.text());
    }

    private String rightText() {
        StringBuilder text = new StringBuilder();
        int many = random.nextInt(20) == 0 ? 38 + random.nextInt(5) : 1 + random.nextInt(4);
        for (int i = 0; i < many; i++) {
            if (many < 30 && random.nextInt(4) != 0) {
                text.append("if ");
                test(text, random.nextInt(30) == 0 ? 18 : 2);
                text.append(" then ");
            }
            int act = random.nextInt(6);
            text.append(WORDS[act]);
            if (act == 1) {
                text.append(blank()).append(1 + random.nextInt(100));
            }
            text.append(blank()).append(";");
        }
        return text.toString();
    }

    private String blank() {
        return random.nextInt(6) == 0 ? "\n " : "";
    }

    private void test(StringBuilder text, int deep) {
        int kind = random.nextInt(8);
        if (deep > 0 && (kind < 2 || deep > 3)) {
            text.append("not ");
            test(text, deep - 1);
        } else if (deep > 0 && kind == 2) {
            text.append("(");
            test(text, deep - 1);
            text.append(")");
        } else if (deep > 0 && kind < 5) {
            test(text, deep - 1);
            text.append(kind == 3 ? " and " : " or ");
            test(text, deep - 1);
        } else {
            sum(text);
            text.append(WORDS[24 + random.nextInt(3)]);
            sum(text);
        }
    }

    private void sum(StringBuilder text) {
        int many = 1 + random.nextInt(2) + (random.nextInt(8) == 0 ? 4 : 0);
        for (int i = 0; i < many; i++) {
            if (i > 0) {
                text.append(WORDS[27 + random.nextInt(3)]);
            }
            text.append(blank());
            if (random.nextInt(3) == 0) {
                text.append(random.nextInt(random.nextBoolean() ? 4 : 1000000));
            } else {
                text.append(WORDS[11 + random.nextInt(10)]);
            }
        }
    }

    private String spoilt(String text) {
        int at = random.nextInt(text.length() + 1);
        switch (random.nextInt(4)) {
            case 0: return text.substring(0, at);
            case 1: return text.substring(0, at) + text.substring(Math.min(text.length(), at + 1 + random.nextInt(3)));
            case 2: return text.substring(0, at) + " " + WORDS[random.nextInt(WORDS.length)] + " " + text.substring(at);
            default: return text.substring(0, at) + (char) random.nextInt(256) + text.substring(at);
        }
    }

    private void houseCalls() {
        int a = person();
        int b = person();
        int sum = money();
        switch (random.nextInt(10)) {
            case 0:
            case 1:
            case 2: {
                int kind = random.nextInt(20) == 0 ? upTo(4) : 1 + random.nextInt(3);
                int pledge = kind == 3 || random.nextInt(20) == 0 ? b : -1;
                same("debt " + a + " " + kind + " " + sum + " " + pledge,
                    house.debt(a, kind, sum, pledge), plain.debt(a, kind, sum, pledge));
                break;
            }
            case 3:
            case 4:
                same("term", house.term(), plain.term());
                break;
            case 5:
            case 6:
            case 7:
                same("come " + a + " " + sum, house.come(a, sum), plain.come(a, sum));
                break;
            case 8:
                if (random.nextInt(3) == 0) {
                    same("heir " + a + " " + b, house.heir(a, b), plain.heir(a, b));
                } else {
                    same("free " + a, house.free(a), plain.free(a));
                }
                break;
            default: {
                int shire = upTo(7);
                int farm = random.nextInt(4) == 0 ? 0 : upTo(100000);
                int sheriff = random.nextInt(4) == 0 ? -1 : b;
                same("shire " + shire + " " + farm + " " + sheriff,
                    house.shire(shire, farm, sheriff), plain.shire(shire, farm, sheriff));
            }
        }
    }

    private void askingCalls() {
        int debt = one(plain.count(0));
        int line = one(plain.count(1));
        int stick = one(plain.count(2));
        int what = upTo(7);
        switch (random.nextInt(7)) {
            case 0:
                same("about " + debt + " " + what, house.about(debt, what), plain.about(debt, what));
                break;
            case 1:
                int person = person();
                same("owe " + person + " " + what, house.owe(person, what), plain.owe(person, what));
                break;
            case 2:
                same("line " + line + " " + what, house.line(line, what), plain.line(line, what));
                break;
            case 3:
                int term = upTo(plain.count(4));
                same("as " + debt + " " + term, house.as(debt, term), plain.as(debt, term));
                break;
            case 4:
                same("stick " + stick + " " + (what - 1), house.stick(stick, what - 1), plain.stick(stick, what - 1));
                break;
            case 5:
                int near = plain.stick(stick, -1) + (random.nextBoolean() ? 0 : 12 * random.nextInt(3000));
                same("fits " + stick + " " + near, house.fits(stick, near), plain.fits(stick, near));
                break;
            default:
                int text = one(plain.count(3));
                int coins = money();
                same("would " + text + " " + debt + " " + coins, house.would(text, debt, coins), plain.would(text, debt, coins));
        }
    }

    private void clothCalls() {
        int sum = money();
        int what = upTo(6);
        switch (random.nextInt(6)) {
            case 0:
            case 1:
                same("lay " + sum, house.lay(sum), plain.lay(sum));
                break;
            case 2:
                same("take " + sum, house.take(sum), plain.take(sum));
                break;
            case 3:
                same("cloth " + what, house.cloth(what), plain.cloth(what));
                break;
            case 4:
                same("sum " + what, house.sum(what), plain.sum(what));
                break;
            default:
                same("count " + what, house.count(what), plain.count(what));
        }
    }
}
