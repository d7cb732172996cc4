import java.util.ArrayList;
import java.util.List;

/**
 * "When a call throws, nothing has changed; of several exceptions it is the first one of the throws
 * clause." Behind each call of a season, every call that is refused then (by the model) is told to the
 * program too. It must throw what is due, all that is shown must be as it was, and the season must go
 * on with the answers that it has without them: so what is not shown (the hidden number, the sets, the
 * wishes, the order of entries) has not changed either.
 */
public final class RefusedTest {
    private static final int MOST_IN_ONE = 250;
    private static final int[] ENDS = World.ENDS;

    interface OfProgram {
        Object answer(Office x);
    }

    interface OfModel {
        Object answer(Model m);
    }

    private record Step(String text, OfProgram program, OfModel model) { }

    private static List<Step> steps = new ArrayList<>();
    private static int refused = 0;

    public static void main(String[] args) {
        season();
        goThrough("a season");
        steps = new ArrayList<>();
        fullOffice();
        goThrough("a full office");
        Check.same("many calls were refused", true, refused > 20000);
        Check.end("RefusedTest");
    }

    // ---- the calls

    private static Step beast(int kind) {
        return new Step("beast " + kind, x -> x.beast(kind), m -> m.beast(kind));
    }

    private static Step rider() {
        return new Step("rider", x -> x.rider(), m -> m.rider());
    }

    private static Step rodeo(int kind, int mile, int first, int performances, int places, int added, int fee) {
        String text = "rodeo " + kind + " " + mile + " " + first + " " + performances + " " + places + " " + added
            + " " + fee;
        return new Step(text, x -> x.rodeo(kind, mile, first, performances, places, added, fee),
            m -> m.rodeo(kind, mile, first, performances, places, added, fee));
    }

    private static Step rodeo(int[] a) {
        return rodeo(a[0], a[1], a[2], a[3], a[4], a[5], a[6]);
    }

    private static Step enter(int r, int k, int set, int wish) {
        return new Step("enter " + r + " " + k + " " + set + " " + wish, x -> x.enter(r, k, set, wish),
            m -> m.enter(r, k, set, wish));
    }

    private static Step close(int r) {
        return new Step("close " + r, x -> x.close(r), m -> m.close(r));
    }

    private static Step draw(int r) {
        return new Step("draw " + r, x -> x.draw(r), m -> m.draw(r));
    }

    private static Step pay(int r) {
        return new Step("pay " + r, x -> x.pay(r), m -> m.pay(r));
    }

    private static Step hide(int number) {
        OfProgram program = x -> {
            x.hide(number);
            return "hidden";
        };
        OfModel model = m -> {
            m.hide(number);
            return "hidden";
        };
        return new Step("hide " + number, program, model);
    }

    private static Step ride(int r, int k, int marks, int watches, boolean isFoul) {
        return new Step("ride " + r + " " + k + " " + marks + " " + watches + " " + isFoul,
            x -> x.ride(r, k, marks, watches, isFoul), m -> m.ride(r, k, marks, watches, isFoul));
    }

    private static Step answer(int r, int k, boolean isTaken) {
        return new Step("answer " + r + " " + k + " " + isTaken, x -> x.answer(r, k, isTaken),
            m -> m.answer(r, k, isTaken));
    }

    // ---- what is told

    private static void season() {
        for (int kind : new int[] {0, 0, 1, 0, 0}) {
            steps.add(beast(kind));
        }
        for (int k = 0; k < 5; k++) {
            steps.add(rider());
        }
        steps.add(hide(4711));
        steps.add(rodeo(0, 100, 10, 3, 2, 500, 10));
        steps.add(rodeo(1, 500, 11, 2, 3, 701, 0));
        for (int k = 4; k >= 0; k--) {
            steps.add(enter(0, k, 3 + k % 2 * 4, k % 2));
        }
        steps.add(enter(1, 0, 2, 1));
        steps.add(close(0));
        steps.add(enter(1, 1, 3, 0));
        steps.add(enter(1, 3, 3, 1));
        steps.add(close(1));
        steps.add(draw(0));
        rides(0);
        steps.add(draw(1));
        rides(1);
        steps.add(pay(0));
        steps.add(rodeo(0, 0, 13, 1, 4, 33, 1));
        steps.add(enter(2, 2, 1, 0));
        steps.add(enter(2, 0, 1, 0));
        steps.add(rider());
        steps.add(enter(2, 5, 1, 0));
        steps.add(beast(0));
        steps.add(close(2));
        steps.add(draw(2));
        rides(2);
        steps.add(pay(1));
        steps.add(pay(2));
        steps.add(rodeo(0, 0, 30, 1, 1, 33, 1));
        steps.add(enter(3, 4, 1, 0));
        steps.add(close(3));
        steps.add(draw(3));
    }

    /** Only those who can: the model is asked. Weak rides, whose re-rides are taken or left, and buck-offs. */
    private static void rides(int r) {
        int weak = Check.marks(20, 5 + r, 20, 6);
        for (int k = 0; k < 6; k++) {
            rideIfMounted(r, k, k % 3 == 2 ? Check.marks(20, 15, 20, 16) : weak, k == 4);
        }
        for (int k = 5; k >= 0; k--) {
            if (isFine(answer(r, k, true))) {
                steps.add(answer(r, k, k % 2 == 0));
                rideIfMounted(r, k, weak, false);
            }
        }
    }

    private static void rideIfMounted(int r, int k, int marks, boolean isFoul) {
        Step ride = ride(r, k, marks, 900700 + k, isFoul);
        if (isFine(ride)) {
            steps.add(ride);
        }
    }

    private static boolean isFine(Step step) {
        return !dueBehind(steps.size(), step).startsWith("throws.");
    }

    private static void fullOffice() {
        for (int i = 0; i < 16; i++) {
            steps.add(beast(i % 2));
        }
        for (int i = 0; i < 12; i++) {
            steps.add(rider());
        }
        for (int i = 0; i < 8; i++) {
            steps.add(rodeo(i % 2, 250 * i, 2 * i, 1 + i % 4, 1 + i / 2, 1000, 10 * i));
        }
        for (int k = 0; k < 12; k++) {
            steps.add(enter(7, k, 15 - k, Integer.numberOfTrailingZeros(15 - k)));
        }
        steps.add(close(7));
        steps.add(draw(7));
        rides(7);
    }

    // ---- what may be refused

    private static List<Step> candidates(int beasts, int riders, int rodeos) {
        List<Step> all = new ArrayList<>();
        for (int kind : new int[] {-1, 0, 1, 2, ENDS[0], ENDS[1]}) {
            all.add(beast(kind));
        }
        all.add(rider());
        for (int number : World.outside(0, 65536)) {
            all.add(hide(number));
        }
        rodeoCandidates(all);
        int[] rs = {ENDS[0], -1, 0, 1, rodeos - 1, rodeos, 8, ENDS[1]};
        for (int r : rs) {
            all.add(close(r));
            all.add(draw(r));
            all.add(pay(r));
            all.add(new Step("most " + r, x -> x.most(r), m -> m.most(r)));
            for (int what : World.outside(0, 4)) {
                all.add(new Step("rodeoIs " + r + " " + what, x -> x.rodeoIs(r, what), m -> m.rodeoIs(r, what)));
            }
            for (int k = -1; k <= riders; k++) {
                riderCandidates(all, r, k);
            }
            riderCandidates(all, r, ENDS[0]);
            riderCandidates(all, r, ENDS[1]);
        }
        for (int beast : new int[] {ENDS[0], -1, 0, beasts - 1, beasts, 16, ENDS[1]}) {
            for (int what : new int[] {-1, 0, 5, ENDS[0], ENDS[1]}) {
                all.add(new Step("beastIs " + beast + " " + what, x -> x.beastIs(beast, what),
                    m -> m.beastIs(beast, what)));
            }
        }
        for (int rank : World.outside(0, 11)) {
            all.add(new Step("ranked " + rank, x -> x.ranked(rank), m -> m.ranked(rank)));
        }
        for (int k : World.outside(0, riders - 1)) {
            all.add(new Step("counts " + k, x -> x.counts(k), m -> m.counts(k)));
        }
        return all;
    }

    private static void rodeoCandidates(List<Step> all) {
        int[] least = {0, 0, 0, 1, 1, 0, 0};
        int[] greatest = {1, 2000, 60, 4, 4, 99999, 999};
        all.add(rodeo(least));
        all.add(rodeo(greatest));
        for (int i = 0; i < 7; i++) {
            for (int bad : World.outside(least[i], greatest[i])) {
                int[] a = greatest.clone();
                a[i] = bad;
                all.add(rodeo(a));
            }
        }
    }

    private static void riderCandidates(List<Step> all, int r, int k) {
        all.add(enter(r, k, 1, 0));
        all.add(enter(r, k, 3, 2));
        all.add(enter(r, k, 0, 0));
        all.add(enter(r, k, 16, 4));
        all.add(enter(r, k, 8, 3));
        all.add(new Step("placed " + r + " " + k, x -> x.placed(r, k), m -> m.placed(r, k)));
        all.add(new Step("drawn " + r + " " + k, x -> x.drawn(r, k), m -> m.drawn(r, k)));
        all.add(new Step("isOffered " + r + " " + k, x -> x.isOffered(r, k), m -> m.isOffered(r, k)));
        all.add(new Step("score " + r + " " + k, x -> x.score(r, k), m -> m.score(r, k)));
        all.add(new Step("got " + r + " " + k, x -> x.got(r, k), m -> m.got(r, k)));
        all.add(ride(r, k, World.TOP, World.FULL, false));
        all.add(ride(r, k, 0, 0, true));
        all.add(ride(r, k, -1, World.FULL, false));
        all.add(ride(r, k, World.TOP + 1, 0, false));
        all.add(ride(r, k, 0, 1000000, true));
        all.add(answer(r, k, true));
        all.add(answer(r, k, false));
    }

    // ---- telling it

    private static Model modelBehind(int count) {
        Model m = new Model();
        for (int i = 0; i < count; i++) {
            steps.get(i).model().answer(m);
        }
        return m;
    }

    private static Office officeBehind(int count, List<String> dues) {
        Office x = new Office();
        tell(x, 0, count, dues);
        return x;
    }

    private static void tell(Office x, int from, int behind, List<String> dues) {
        for (int i = from; i < behind; i++) {
            Step step = steps.get(i);
            Check.due("the call " + i + ", " + step.text(), dues.get(i), () -> step.program().answer(x));
        }
    }

    private static List<String> dues() {
        List<String> dues = new ArrayList<>();
        Model m = new Model();
        for (Step step : steps) {
            dues.add(String.valueOf(step.model().answer(m)));
        }
        return dues;
    }

    private static void goThrough(String name) {
        List<String> dues = dues();
        String atTheEnd = Check.seen(officeBehind(steps.size(), dues));
        for (int at = 0; at <= steps.size() && Check.countWrong() == 0; at++) {
            Check.sentence(name + ", behind " + at + " calls");
            String now = Check.seen(officeBehind(at, dues));
            List<Step> wrong = refusedAt(at);
            for (int from = 0; from < wrong.size(); from += MOST_IN_ONE) {
                Office x = officeBehind(at, dues);
                x.keepEach(true);
                for (Step step : wrong.subList(from, Math.min(wrong.size(), from + MOST_IN_ONE))) {
                    Check.due("refused: " + step.text(), dueBehind(at, step), () -> step.program().answer(x));
                    refused++;
                }
                x.keepEach(false);
                Check.same("seen behind what was refused", now, Check.seen(x));
                tell(x, at, steps.size(), dues);
                Check.same("seen at the end", atTheEnd, Check.seen(x));
            }
        }
    }

    private static String dueBehind(int count, Step step) {
        Model m = modelBehind(count);
        return Check.answerOf(() -> step.model().answer(m));
    }

    private static List<Step> refusedAt(int at) {
        int beasts = 0;
        int riders = 0;
        int rodeos = 0;
        for (Step step : steps.subList(0, at)) {
            beasts += step.text().startsWith("beast") ? 1 : 0;
            riders += step.text().startsWith("rider") ? 1 : 0;
            rodeos += step.text().startsWith("rodeo") ? 1 : 0;
        }
        List<Step> refusedNow = new ArrayList<>();
        for (Step step : candidates(beasts, riders, rodeos)) {
            if (dueBehind(at, step).startsWith("throws.")) {
                refusedNow.add(step);
            }
        }
        return refusedNow;
    }
}
