import java.util.ArrayList;
import java.util.HashSet;
import java.util.List;
import java.util.Set;
import java.util.regex.Matcher;
import java.util.regex.Pattern;

/**
 * The document once more, with the whole Java library and by other ways than CrownTable's: a
 * reader by recursion that throws at the fault, tests as a tree, a cloth that steps one by one,
 * and the debts of each term kept as they stood.
 */
final class PlainHouse {
    private static final List<String> ACTS = List.of("pay", "part", "wait", "quit", "call", "hold");
    private static final Set<String> PARTS = Set.of("owed", "all", "age", "kind", "coins", "term",
        "year", "held", "paid", "pledged");
    private static final int[] WORTHS = {1, 12, 240, 4800, 24000, 240000};

    interface Node {
        long of(java.util.Map<String, Long> facts);
    }

    record Statement(Node test, int act, int share) {
    }

    static final class Debt {
        int person, kind, sum, left, made, pledge, pardoned;
        final List<Integer> leftAtTerm = new ArrayList<>();
    }

    static final class Fault extends RuntimeException {
        private static final long serialVersionUID = 1;
        final int place;

        Fault(int place) {
            super("", null, false, false);
            this.place = place;
        }
    }

    private record Token(String text, int place) {
    }

    private static final Pattern TOKEN = Pattern.compile("[a-z]+|[0-9]+|[^ \n]", Pattern.DOTALL);

    private final StringBuilder tape = new StringBuilder();
    private final List<List<Statement>> texts = new ArrayList<>();
    private final List<int[]> forces = new ArrayList<>();
    private final List<Debt> debts = new ArrayList<>();
    private final List<int[]> roll = new ArrayList<>();
    private final List<Integer> sticks = new ArrayList<>();
    private final long[] credit = new long[16];
    private final Set<Integer> held = new HashSet<>();
    private final Set<Integer> came = new HashSet<>();
    private final int[][] shires = new int[8][];
    private final int[] cloth = new int[6];
    private int now = 0;
    private long brought = 0;

    // ---- texts

    int feed(int a, int b, int c, int d, int e) {
        if (tape.length() > 780) {
            return -3;
        }
        for (int number : new int[] {a, b, c, d, e}) {
            for (byte one : java.nio.ByteBuffer.allocate(4).putInt(number).array()) {
                tape.append((char) (one & 255));
            }
        }
        return tape.length();
    }

    int end(int n) {
        if (n < 0 || n > tape.length()) {
            return -1;
        }
        tape.setLength(n);
        return n;
    }

    int text() {
        if (texts.size() == 10) {
            return -3;
        }
        String all = tape.toString();
        tape.setLength(0);
        try {
            texts.add(new Descent(all).text());
            return texts.size() - 1;
        } catch (Fault fault) {
            return -100 - fault.place;
        }
    }

    private static final class Descent {
        private final List<Token> tokens = new ArrayList<>();
        private int at = 0;

        Descent(String all) {
            Matcher matcher = TOKEN.matcher(all);
            while (matcher.find()) {
                tokens.add(new Token(matcher.group(), matcher.start()));
            }
            tokens.add(new Token("", all.length()));
        }

        private String now() {
            return tokens.get(at).text;
        }

        private Fault fault() {
            return new Fault(tokens.get(at).place);
        }

        private void must(String text) {
            if (!now().equals(text)) {
                throw fault();
            }
            at++;
        }

        List<Statement> text() {
            List<Statement> all = new ArrayList<>();
            do {
                if (all.size() == 40) {
                    throw fault();
                }
                all.add(statement());
            } while (!now().isEmpty());
            return all;
        }

        private Statement statement() {
            Node test = null;
            if (now().equals("if")) {
                at++;
                test = test(0);
                must("then");
            }
            int act = ACTS.indexOf(now());
            if (act < 0) {
                throw fault();
            }
            at++;
            int share = 0;
            if (act == 1) {
                if (!now().matches("0*([1-9]|[1-9][0-9]|100)")) {
                    throw fault();
                }
                share = Integer.parseInt(now());
                at++;
            }
            must(";");
            return new Statement(test, act, share);
        }

        private Node test(int deep) {
            Node left = all(deep);
            while (now().equals("or")) {
                at++;
                Node a = left;
                Node b = all(deep);
                left = f -> a.of(f) != 0 || b.of(f) != 0 ? 1 : 0;
            }
            return left;
        }

        private Node all(int deep) {
            Node left = one(deep);
            while (now().equals("and")) {
                at++;
                Node a = left;
                Node b = one(deep);
                left = f -> a.of(f) != 0 && b.of(f) != 0 ? 1 : 0;
            }
            return left;
        }

        private Node one(int deep) {
            if (now().equals("not") || now().equals("(")) {
                if (deep == 15) {
                    throw fault();
                }
                if (now().equals("not")) {
                    at++;
                    Node a = one(deep + 1);
                    return f -> 1 - a.of(f);
                }
                at++;
                Node a = test(deep + 1);
                must(")");
                return a;
            }
            Node a = sum();
            String relation = now();
            if (!relation.matches("[<=>]")) {
                throw fault();
            }
            at++;
            Node b = sum();
            return f -> {
                int sign = Integer.signum(Long.compare(a.of(f), b.of(f)));
                return sign == "<=>".indexOf(relation) - 1 ? 1 : 0;
            };
        }

        private Node sum() {
            Node left = product();
            while (now().equals("+") || now().equals("-")) {
                int sign = now().equals("+") ? 1 : -1;
                at++;
                Node a = left;
                Node b = product();
                left = f -> a.of(f) + sign * b.of(f);
            }
            return left;
        }

        private Node product() {
            Node left = part();
            while (now().equals("*")) {
                at++;
                Node a = left;
                Node b = part();
                left = f -> a.of(f) * b.of(f);
            }
            return left;
        }

        private Node part() {
            String text = now();
            if (!text.matches("[0-9]{1,6}") && !PARTS.contains(text)) {
                throw fault();
            }
            at++;
            if (PARTS.contains(text)) {
                return f -> f.get(text);
            }
            long number = Long.parseLong(text);
            return f -> number;
        }
    }

    int statements(int text) {
        return text < 0 || text >= texts.size() ? -1 : texts.get(text).size();
    }

    int force(int text, int term) {
        if (statements(text) < 0 || term < now || term > 1000) {
            return -1;
        }
        if (forces.size() == 40) {
            return -3;
        }
        forces.add(new int[] {text, term});
        return 1;
    }

    int inForce(int term) {
        int found = -1;
        if (term >= 0 && term <= 1000) {
            for (int[] told : forces) {
                found = told[1] <= term ? told[0] : found;
            }
        }
        return found;
    }

    private int first(int text, Debt debt, long coins, long paid) {
        java.util.Map<String, Long> facts = new java.util.HashMap<>();
        facts.put("owed", (long) debt.left);
        facts.put("all", owe(debt.person, 0));
        facts.put("age", (long) now - debt.made);
        facts.put("kind", (long) debt.kind);
        facts.put("coins", coins);
        facts.put("term", (long) now);
        facts.put("year", (long) now / 2);
        facts.put("held", owe(debt.person, 2));
        facts.put("paid", paid);
        facts.put("pledged", debt.pledge < 0 ? 0L : 1L);
        List<Statement> all = texts.get(text);
        for (int i = 0; i < all.size(); i++) {
            if (all.get(i).test == null || all.get(i).test.of(facts) != 0) {
                return i;
            }
        }
        return -1;
    }

    int would(int text, int debt, int coins) {
        if (statements(text) < 0 || about(debt, 3) <= 0 || coins < 0 || coins > 10000000) {
            return -1;
        }
        int found = first(text, debts.get(debt), coins, 0);
        return found < 0 ? -2 : found;
    }

    // ---- debts

    int shire(int shire, int farm, int sheriff) {
        if (shire < 0 || shire > 7 || farm < 0 || farm > 100000 || sheriff < -1 || sheriff > 15) {
            return -1;
        }
        shires[shire] = farm == 0 || sheriff == -1 ? null : new int[] {farm, sheriff};
        return 1;
    }

    private int add(int person, int kind, int sum, int pledge) {
        Debt debt = new Debt();
        debt.person = person;
        debt.kind = kind;
        debt.sum = sum;
        debt.left = sum;
        debt.made = now;
        debt.pledge = pledge;
        for (int term = 0; term < now; term++) {
            debt.leftAtTerm.add(-1);
        }
        debts.add(debt);
        return debts.size() - 1;
    }

    int debt(int person, int kind, int sum, int pledge) {
        boolean right = person >= 0 && person < 16 && kind >= 1 && kind <= 3 && sum >= 1 && sum <= 1000000;
        if (kind == 3) {
            right &= pledge >= 0 && pledge < 16 && pledge != person;
        } else {
            right &= pledge == -1;
        }
        if (!right) {
            return -1;
        }
        return debts.size() == 400 ? -3 : add(person, kind, sum, pledge);
    }

    int term() {
        if (now == 1000) {
            return -1;
        }
        List<int[]> due = new ArrayList<>();
        for (int[] shire : shires) {
            if (shire != null && now % 2 == 1) {
                due.add(shire);
            }
        }
        if (debts.size() + due.size() > 400) {
            return -3;
        }
        for (Debt debt : debts) {
            debt.leftAtTerm.add(debt.left);
        }
        now++;
        came.clear();
        for (int[] shire : due) {
            add(shire[1], 0, shire[0], -1);
        }
        return now;
    }

    int come(int person, int coins) {
        if (person < 0 || person > 15 || coins < 0 || coins > 1000000) {
            return -1;
        }
        if (came.contains(person)) {
            return -2;
        }
        int n = (int) owe(person, 3);
        if (roll.size() + n > 4000 || sticks.size() + n > 2000) {
            return -3;
        }
        came.add(person);
        brought += coins;
        long purse = coins + credit[person];
        long began = purse;
        int text = inForce(now);
        for (int i = 0; i < debts.size(); i++) {
            Debt debt = debts.get(i);
            if (debt.person != person || debt.left == 0) {
                continue;
            }
            int statement = text < 0 ? -1 : first(text, debt, purse, began - purse);
            Statement does = statement < 0 ? new Statement(null, 2, 0) : texts.get(text).get(statement);
            int[] line = {now, person, i, does.act, 0, statement, text, -1};
            switch (ACTS.get(does.act)) {
                case "pay" -> line[4] = (int) Math.min(debt.left, purse);
                case "part" -> line[4] = (int) Math.min((long) debt.left * does.share / 100, purse);
                case "quit" -> {
                    debt.pardoned = debt.left;
                    debt.left = 0;
                }
                case "call" -> {
                    if (debt.pledge >= 0 && debt.pledge != person) {
                        debt.person = debt.pledge;
                        debt.pledge = -1;
                    }
                }
                case "hold" -> held.add(person);
                default -> { }
            }
            purse -= line[4];
            debt.left -= line[4];
            if (line[4] > 0) {
                line[7] = sticks.size();
                sticks.add(line[4]);
            }
            roll.add(line);
        }
        credit[person] = purse;
        return n;
    }

    int free(int person) {
        return person < 0 || person > 15 ? -1 : held.remove(person) ? 1 : 0;
    }

    int heir(int from, int to) {
        if (from < 0 || from > 15 || to < 0 || to > 15 || from == to) {
            return -1;
        }
        int moved = (int) owe(from, 3);
        for (Debt debt : debts) {
            if (debt.person == from && debt.left > 0) {
                debt.person = to;
                debt.pledge = debt.pledge == to ? -1 : debt.pledge;
            }
        }
        credit[to] += credit[from];
        credit[from] = 0;
        return moved;
    }

    int about(int debt, int what) {
        if (debt < 0 || debt >= debts.size() || what < 0 || what > 6) {
            return -2;
        }
        Debt d = debts.get(debt);
        return new int[] {d.person, d.kind, d.sum, d.left, d.made, d.pledge, d.pardoned}[what];
    }

    long owe(int person, int what) {
        if (person < 0 || person > 15 || what < 0 || what > 4) {
            return -1;
        }
        long left = debts.stream().filter(d -> d.person == person).mapToLong(d -> d.left).sum();
        long many = debts.stream().filter(d -> d.person == person && d.left > 0).count();
        return new long[] {left, credit[person], held.contains(person) ? 1 : 0, many,
            came.contains(person) ? 1 : 0}[what];
    }

    // ---- the roll

    int line(int i, int what) {
        return i < 0 || i >= roll.size() || what < 0 || what > 7 ? -2 : roll.get(i)[what];
    }

    int as(int debt, int term) {
        if (debt < 0 || debt >= debts.size() || term < 0 || term > now) {
            return -2;
        }
        Debt d = debts.get(debt);
        return term == now ? d.left : d.leftAtTerm.get(term);
    }

    private static int[] notches(int sum) {
        int[] notches = new int[6];
        int rest = sum;
        for (int column = 5; column >= 0; column--) {
            while (rest >= WORTHS[column]) {
                rest -= WORTHS[column];
                notches[column]++;
            }
        }
        return notches;
    }

    int stick(int stick, int what) {
        if (stick < 0 || stick >= sticks.size() || what < -1 || what > 5) {
            return -1;
        }
        return what == -1 ? sticks.get(stick) : notches(sticks.get(stick))[what];
    }

    int fits(int stick, int sum) {
        if (stick < 0 || stick >= sticks.size() || sum < 0 || sum > 10000000) {
            return -1;
        }
        int place = java.util.Arrays.mismatch(notches(sticks.get(stick)), notches(sum));
        return place < 0 ? 6 : place;
    }

    // ---- the cloth

    private static int next(int column) {
        return WORTHS[column + 1] / WORTHS[column];
    }

    private boolean stepUp() {
        for (int column = 0; column < 5; column++) {
            if (cloth[column] >= next(column)) {
                cloth[column] -= next(column);
                cloth[column + 1]++;
                return true;
            }
        }
        return false;
    }

    int lay(int sum) {
        if (sum < 1 || sum > 1000000) {
            return -1;
        }
        int[] notches = notches(sum);
        for (int column = 0; column < 6; column++) {
            cloth[column] += notches[column];
        }
        int steps = 0;
        while (stepUp()) {
            steps++;
        }
        return steps;
    }

    int take(int sum) {
        if (sum < 1 || sum > 1000000) {
            return -1;
        }
        if (sum > sum(0)) {
            return -2;
        }
        int steps = 0;
        int[] notches = notches(sum);
        for (int column = 0; column < 6; column++) {
            while (cloth[column] < notches[column]) {
                steps += fetch(column);
            }
            cloth[column] -= notches[column];
        }
        return steps;
    }

    private int fetch(int column) {
        int steps = 0;
        if (cloth[column + 1] == 0) {
            steps = fetch(column + 1);
        }
        cloth[column + 1]--;
        cloth[column] += next(column);
        return steps + 1;
    }

    int cloth(int column) {
        return column < 0 || column > 5 ? -1 : cloth[column];
    }

    long sum(int what) {
        switch (what) {
            case 0: {
                long all = 0;
                for (int column = 0; column < 6; column++) {
                    all += (long) WORTHS[column] * cloth[column];
                }
                return all;
            }
            case 1: return roll.stream().mapToLong(line -> line[4]).sum();
            case 2: return java.util.Arrays.stream(credit).sum();
            case 3: return debts.stream().mapToLong(d -> d.left).sum();
            case 4: return debts.stream().mapToLong(d -> d.pardoned).sum();
            case 5: return debts.stream().mapToLong(d -> d.sum).sum();
            case 6: return brought;
            default: return -1;
        }
    }

    int count(int what) {
        int[] all = {debts.size(), roll.size(), sticks.size(), texts.size(), now, tape.length()};
        return what < 0 || what > 5 ? -1 : all[what];
    }
}
