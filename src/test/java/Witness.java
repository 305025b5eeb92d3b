import java.util.ArrayList;
import java.util.List;
import java.util.function.Consumer;

/** Two towns with the same calls behind them: what one was refused, or asked, must leave no trace in it. */
final class Witness {
    static final String TOWN = "hours 9; sort a brings 7 tires 30 mind 40 pride 5 need 2; sort b brings 5 tires 10 mind 0 pride 0 need 3;"
            + "hat f keeps 20 least 3 looks 60 before; hat g keeps 10 least 0 looks 0 after;"
            + "person p sort a; person q sort b; person r sort a; in p f; in q f; in r g; pair p r;"
            + "works a 4 when own = 1; works b last + 1 when last < 6;";

    private Witness() {
    }

    /** A town in the midst of its life: weeks were, much is drawn, paid, lost and said, a tape lies there. */
    static WageHats lived() {
        WageHats x = Texts.townOf(TOWN);
        x.put(0, 5);
        x.put(1, 0);
        x.put(2, 6);
        x.seed(99);
        x.run(3);
        x.said(0, 8);
        x.said(1, 2);
        x.image();
        x.put(1, 3);
        x.keep(1, 15);
        Texts.lay(x, Texts.bytesOf("hours 7;"));
        return x;
    }

    static void noTrace(String label, Consumer<WageHats> call) {
        WageHats touched = lived();
        call.accept(touched);
        alike(label, touched, lived());
    }

    static void alike(String label, WageHats got, WageHats due) {
        same(label + ", told", told(got), told(due));
        Check.due(label + ", weeks on", got.run(2), due.run(2));
        Check.due(label + ", rounds on", got.rest(1), due.rest(1));
        same(label + ", told later", told(got), told(due));
        Check.due(label + ", the tape", got.feed(0, 0, 0, 0, 0), due.feed(0, 0, 0, 0, 0));
        Check.due(label + ", the tape's length", got.end(8), due.end(8));
        Check.due(label + ", the tape's town", got.town(), due.town());
        Check.due(label + ", the tape's hours", got.has(5), due.has(5));
    }

    private static void same(String label, List<Integer> got, List<Integer> due) {
        for (int i = 0; i < Math.max(got.size(), due.size()); i++) {
            int one = i < got.size() ? got.get(i) : Integer.MIN_VALUE;
            int other = i < due.size() ? due.get(i) : Integer.MIN_VALUE;
            Check.due(label + ", answer " + i, one, other);
        }
    }

    /** All that can be asked without a change; some 130 calls for a town of three. */
    static List<Integer> told(WageHats x) {
        List<Integer> all = new ArrayList<>();
        for (int what = 0; what < 9; what++) {
            all.add(x.has(what));
        }
        all.add(x.fault(0));
        all.add(x.fault(1));
        for (int kind = 0; kind < 3; kind++) {
            for (int which = 0; which < x.has(kind); which++) {
                all.add(x.letter(kind, which, 0));
            }
        }
        for (int p = 0; p < x.has(2); p++) {
            for (int what = 0; what < 10; what++) {
                all.add(x.person(p, what));
            }
            all.add(x.drew(p));
        }
        for (int h = 0; h < x.has(1); h++) {
            for (int what = 0; what < 8; what++) {
                all.add(x.hat(h, what));
            }
        }
        for (int k = 0; k < x.has(3); k++) {
            for (int what = 0; what < 4; what++) {
                all.add(x.pair(k, what));
            }
        }
        all.add(x.less());
        for (int k = 0; k < 18; k++) {
            all.add(x.octet(k));
        }
        return all;
    }
}
