/**
 * Long runs of changing calls, always the same ones, each answered by the program and by the model,
 * with looks at all that is shown in between.
 */
public final class ModelTest {
    private static final int RUNS = 500;
    private static final int CALLS = 440;

    private static long seed = 20261119L;
    private static Office x;
    private static Model m;
    private static int run;
    private static int[] happened = new int[12];

    public static void main(String[] args) {
        for (run = 0; run < RUNS && Check.countWrong() == 0; run++) {
            x = new Office();
            m = new Model();
            oneRun();
            add();
        }
        String[] names = {"turned out", "re-rides", "re-rides lost", "re-rides left", "ties", "ground money",
            "nothing counts", "out by places", "out by ways", "more could be placed", "ranked by all pays",
            "bucked off"};
        for (int i = 0; i < names.length; i++) {
            System.out.println("  " + names[i] + ": " + happened[i]);
            Check.same(names[i] + " happened often enough", true, happened[i] >= 20);
        }
        Check.end("ModelTest");
    }

    private static void add() {
        int[] now = {m.turnedOut, m.reRides, m.reRidesLost, m.reRidesLeft, m.ties, m.grounds, m.nothingCounts,
            m.outByPlace, m.outByWay, m.mostAbovePlaced, m.cutRanks, m.bucked};
        for (int i = 0; i < now.length; i++) {
            happened[i] += now[i];
        }
    }

    /** A number from 0, below the bound: a congruence with a fixed seed. */
    private static int any(int bound) {
        seed = seed * 6364136223846793005L + 1442695040888963407L;
        return (int) ((seed >>> 33) % bound);
    }

    /** Mostly from least to greatest, now and then a step or far beyond. */
    private static int near(int least, int greatest) {
        switch (any(40)) {
            case 0:
                return least - 1;
            case 1:
                return greatest + 1;
            case 2:
                return any(4) == 0 ? Integer.MIN_VALUE : least;
            case 3:
                return any(4) == 0 ? Integer.MAX_VALUE : greatest;
            default:
                return least + any(greatest - least + 1);
        }
    }

    private static int riders, rodeos, beasts, spread, fame, made;

    private static void oneRun() {
        riders = 1 + any(12);
        rodeos = 1 + any(8);
        beasts = 1 + any(16);
        spread = new int[] {1, 4, 12, 60}[any(4)];
        fame = any(3);
        made = 0;
        for (int i = 0; i < beasts; i++) {
            beast(any(4) == 0 ? 1 : 0);
        }
        for (int i = 0; i < riders; i++) {
            rider();
        }
        if (run % 3 == 0) {
            season();
        }
        for (int steps = 0; steps < CALLS && made < CALLS && Check.countWrong() == 0; steps++) {
            step();
        }
        sameShown();
    }

    /** All rodeos, from entry to pay, with like money for few, so that ranks are like as well. */
    private static void season() {
        int reach = 1 + any(Math.min(riders, 3));
        for (int rodeo = 0; rodeo < 8; rodeo++) {
            int r = rodeo;
            int first = any(2) == 0 ? 8 * r : any(61);
            int places = 1 + any(4);
            changes("rodeo", () -> x.rodeo(0, 300, first, 2, places, 100, 0),
                () -> m.rodeo(0, 300, first, 2, places, 100, 0));
            int shift = any(riders);
            for (int k = 0; k < reach; k++) {
                enter(r, (k + shift) % riders);
            }
            changes("close " + r, () -> x.close(r), () -> m.close(r));
            changes("draw " + r, () -> x.draw(r), () -> m.draw(r));
            for (int tries = 0; tries < 3; tries++) {
                rideAll(r, false);
            }
            changes("pay " + r, () -> x.pay(r), () -> m.pay(r));
        }
    }

    private static void step() {
        int r = near(0, rodeos - 1);
        int k = near(0, riders - 1);
        switch (any(24)) {
            case 0:
                if (any(6) == 0) {
                    beast(near(0, 1));
                }
                break;
            case 1:
                if (any(12) == 0) {
                    rider();
                }
                break;
            case 2:
            case 3:
                rodeo();
                break;
            case 4:
                hide(near(0, 65536));
                break;
            case 5:
                changes("close " + r, () -> x.close(r), () -> m.close(r));
                break;
            case 6:
            case 7:
                changes("draw " + r, () -> x.draw(r), () -> m.draw(r));
                break;
            case 8:
            case 9:
                changes("pay " + r, () -> x.pay(r), () -> m.pay(r));
                break;
            case 10:
                wrongRide(r, k);
                break;
            case 11:
            case 12:
            case 13:
                rideAll(r, true);
                break;
            case 14:
            case 15:
                answer(r, k);
                break;
            case 16:
                asks(r, k);
                break;
            default:
                enter(r, k);
                break;
        }
    }

    private static void changes(String call, Check.Call program, Check.Call model) {
        if (made >= CALLS) {
            return;
        }
        Check.same("run " + run + ": " + call, Check.answerOf(model), Check.answerOf(program));
        made++;
        if (any(150) == 0) {
            sameShown();
        }
    }

    private static void beast(int kind) {
        changes("beast " + kind, () -> x.beast(kind), () -> m.beast(kind));
    }

    private static void rider() {
        changes("rider", () -> x.rider(), () -> m.rider());
    }

    private static void rodeo() {
        int kind = any(5) == 0 ? near(0, 1) : 0;
        int mile = any(2) == 0 ? near(0, 2000) : 400 * any(5) + any(3) - 1;
        int first = any(10) == 0 ? near(0, 60) : any(spread);
        int performances = near(1, 4);
        int places = near(1, 4);
        int added = any(3) == 0 ? near(0, 99999) : 100 * any(3);
        int fee = any(3) == 0 ? near(0, 999) : 0;
        String call = "rodeo " + kind + " " + mile + " " + first + " " + performances + " " + places + " " + added
            + " " + fee;
        changes(call, () -> x.rodeo(kind, mile, first, performances, places, added, fee),
            () -> m.rodeo(kind, mile, first, performances, places, added, fee));
    }

    private static void hide(int number) {
        Check.Call program = () -> { x.hide(number); return "fine"; };
        Check.Call model = () -> { m.hide(number); return "fine"; };
        changes("hide " + number, program, model);
    }

    private static void enter(int r, int k) {
        int set = any(3) == 0 ? near(1, 15) : 1 + any(3);
        int wish = any(3) == 0 ? near(0, 3) : Integer.numberOfTrailingZeros(set);
        changes("enter " + r + " " + k + " " + set + " " + wish, () -> x.enter(r, k, set, wish),
            () -> m.enter(r, k, set, wish));
    }

    private static void wrongRide(int r, int k) {
        ride(r, k, near(0, 456975), near(0, 999999), any(2) == 0);
    }

    private static void rideAll(int r, boolean isEach) {
        for (int k = 0; k < riders; k++) {
            if (!isEach && m.drawn(r, k) < 0) {
                continue;
            }
            int low = fame == 0 ? any(10) : fame == 1 ? 10 : 5 + any(20);
            int marks = Check.marks(any(2) * 5, low, 10, low + any(2));
            int one = 700 + any(300);
            int other = any(3) == 0 ? 1600 - one : 990;
            ride(r, k, marks, 1000 * one + other - any(3), any(12) == 0);
            if (any(3) != 0) {
                answer(r, k);
            }
        }
    }

    private static void ride(int r, int k, int marks, int watches, boolean isFoul) {
        changes("ride " + r + " " + k + " " + marks + " " + watches + " " + isFoul,
            () -> x.ride(r, k, marks, watches, isFoul), () -> m.ride(r, k, marks, watches, isFoul));
    }

    private static void answer(int r, int k) {
        boolean isTaken = any(2) == 0;
        changes("answer " + r + " " + k + " " + isTaken, () -> x.answer(r, k, isTaken),
            () -> m.answer(r, k, isTaken));
    }

    private static void same(String call, Check.Call program, Check.Call model) {
        Check.same("run " + run + ": " + call, Check.answerOf(model), Check.answerOf(program));
    }

    private static void asks(int r, int k) {
        int what = near(0, 4);
        int beast = near(0, beasts);
        int rank = near(0, 11);
        same("rodeoIs", () -> x.rodeoIs(r, what), () -> m.rodeoIs(r, what));
        same("beastIs", () -> x.beastIs(beast, what), () -> m.beastIs(beast, what));
        same("ranked", () -> x.ranked(rank), () -> m.ranked(rank));
        same("counts", () -> x.counts(k), () -> m.counts(k));
        same("most", () -> x.most(r), () -> m.most(r));
        ofRider(r, k);
    }

    private static void ofRider(int r, int k) {
        same("placed", () -> x.placed(r, k), () -> m.placed(r, k));
        same("drawn", () -> x.drawn(r, k), () -> m.drawn(r, k));
        same("isOffered", () -> x.isOffered(r, k), () -> m.isOffered(r, k));
        same("score", () -> x.score(r, k), () -> m.score(r, k));
        same("got", () -> x.got(r, k), () -> m.got(r, k));
    }

    private static void sameShown() {
        for (int rodeo = 0; rodeo <= 8; rodeo++) {
            int r = rodeo;
            same("most " + r, () -> x.most(r), () -> m.most(r));
            for (int w = -1; w <= 5; w++) {
                int what = w;
                same("rodeoIs " + r + " " + w, () -> x.rodeoIs(r, what), () -> m.rodeoIs(r, what));
            }
            for (int k = 0; k <= riders; k++) {
                ofRider(r, k);
            }
        }
        for (int beast = 0; beast <= 16; beast++) {
            int b = beast;
            for (int w = -1; w <= 5; w++) {
                int what = w;
                same("beastIs " + b + " " + w, () -> x.beastIs(b, what), () -> m.beastIs(b, what));
            }
        }
        for (int rank = -1; rank <= 12; rank++) {
            int place = rank;
            same("ranked " + place, () -> x.ranked(place), () -> m.ranked(place));
            same("counts " + place, () -> x.counts(place), () -> m.counts(place));
        }
        same("balances", () -> x.balances(), () -> m.balances());
    }
}
