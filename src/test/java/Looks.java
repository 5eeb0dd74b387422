import java.util.ArrayList;
import java.util.HashMap;
import java.util.List;
import java.util.Map;
import java.util.function.Supplier;
import java.util.function.ToLongFunction;

/**
 * All that can be seen of a house, to tell whether a call has changed anything. A house answers
 * only 512 calls, so it is built anew for every few looks.
 */
final class Looks {
    private static final int AT_ONCE = 200;
    private static final int MOST_LINES = 150;

    private record Look(String name, ToLongFunction<CrownTable> at) {
    }

    private static final Map<Supplier<CrownTable>, long[]> SEEN = new HashMap<>();

    private final List<Look> still = new ArrayList<>();
    private final List<Look> moving = new ArrayList<>();

    private Looks(CrownTable like) {
        int debts = like.count(0);
        int lines = like.count(1);
        int sticks = like.count(2);
        int term = like.count(4);
        for (int what = 0; what < 7; what++) {
            int w = what;
            look("count " + w, x -> x.count(w));
            look("sum " + w, x -> x.sum(w));
            look("cloth " + w, x -> x.cloth(w));
            for (int person = 0; person < 16; person++) {
                int p = person;
                look("owe " + p + " " + w, x -> x.owe(p, w));
            }
        }
        for (int debt = 0; debt <= debts; debt++) {
            lookAtDebt(debt, term);
        }
        // Of a long roll the beginning and the end are enough.
        for (int line = 0; line <= lines; line++) {
            if (line < MOST_LINES || line > lines - MOST_LINES) {
                lookAtLine(line);
            }
        }
        for (int stick = 0; stick <= sticks; stick++) {
            int s = stick;
            look("stick " + s, x -> x.stick(s, -1));
        }
        lookAtTexts(term);
        lookAhead(debts);
    }

    private void look(String name, ToLongFunction<CrownTable> at) {
        still.add(new Look(name, at));
    }

    private void lookAtDebt(int debt, int term) {
        for (int what = 0; what < 7; what++) {
            int w = what;
            look("about " + debt + " " + w, x -> x.about(debt, w));
        }
        look("as " + debt + " now", x -> x.as(debt, term));
        look("as " + debt + " before", x -> x.as(debt, term / 2));
    }

    private void lookAtLine(int line) {
        for (int what = 0; what < 8; what++) {
            int w = what;
            look("line " + line + " " + w, x -> x.line(line, w));
        }
    }

    private void lookAtTexts(int term) {
        for (int text = 0; text < 10; text++) {
            int t = text;
            look("statements " + t, x -> x.statements(t));
            look("would " + t, x -> x.would(t, 0, 77));
        }
        for (int at = 0; at <= 1000; at += at < term + 20 ? 1 : 49) {
            int a = at;
            look("inForce " + a, x -> x.inForce(a));
        }
        look("inForce 1000", x -> x.inForce(1000));
    }

    /** What no call tells outright is told by what comes of it; each of these ends its house. */
    private void lookAhead(int debts) {
        moving.add(new Look("the tape as a text", x -> 1000L * x.text() + x.statements(x.count(3) - 1)));
        moving.add(new Look("room for forces", Looks::roomForForces));
        moving.add(new Look("room for feeds", Looks::roomForFeeds));
        moving.add(new Look("farms", x -> farms(x, debts)));
        moving.add(new Look("comings", Looks::comings));
        moving.add(new Look("steps", x -> 100L * x.lay(239999) + x.take(1)));
    }

    private static long roomForForces(CrownTable x) {
        int room = 0;
        while (room <= 40 && x.force(0, 1000) == 1) {
            room++;
        }
        return room;
    }

    private static long roomForFeeds(CrownTable x) {
        int room = 0;
        while (room <= 40 && x.feed(0, 0, 0, 0, 0) > 0) {
            room++;
        }
        return room;
    }

    private static long farms(CrownTable x, int debts) {
        long all = 10L * x.term() + x.term();
        for (int debt = debts; debt < debts + 17; debt++) {
            all = 31 * all + 16L * x.about(debt, 2) + x.about(debt, 0);
        }
        return all;
    }

    private static long comings(CrownTable x) {
        long all = 0;
        for (int person = 0; person < 16; person++) {
            all = 31 * all + x.come(person, 10) + x.owe(person, 1);
        }
        return all;
    }

    private List<Look> all() {
        List<Look> all = new ArrayList<>(still);
        all.addAll(moving);
        return all;
    }

    private long[] see(Supplier<CrownTable> build) {
        long[] seen = new long[still.size() + moving.size()];
        CrownTable x = null;
        for (int i = 0; i < still.size(); i++) {
            x = i % AT_ONCE == 0 ? build.get() : x;
            seen[i] = still.get(i).at.applyAsLong(x);
        }
        for (int i = 0; i < moving.size(); i++) {
            seen[still.size() + i] = moving.get(i).at.applyAsLong(build.get());
        }
        return seen;
    }

    /** The call answers what is due, and the house is as if it had not been made. */
    static void unchanged(String what, Supplier<CrownTable> build, ToLongFunction<CrownTable> call, long due) {
        Check.due(what, call.applyAsLong(build.get()), due);
        Looks looks = new Looks(build.get());
        long[] before = SEEN.computeIfAbsent(build, looks::see);
        long[] behind = looks.see(() -> {
            CrownTable x = build.get();
            call.applyAsLong(x);
            return x;
        });
        List<Look> all = looks.all();
        for (int i = 0; i < before.length; i++) {
            Check.due(what + " changes nothing: " + all.get(i).name, behind[i], before[i]);
        }
    }
}
