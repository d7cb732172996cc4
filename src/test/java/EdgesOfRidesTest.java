import java.util.Arrays;

/** Promises 13 to 17: each sentence of the document that names an edge. */
public final class EdgesOfRidesTest {
    private static final int B = RankStock.BULL, H = RankStock.HORSE, NONE = RankStock.NONE;
    private static final int TOP = World.TOP, FULL = World.FULL;

    public static void main(String[] args) {
        rideOfNobody();
        marksLeastAndGreatest();
        marksOneBeyond();
        watchesLeastAndGreatest();
        watchesOneBeyond();
        indexAheadOfArgument();
        argumentAheadOfState();
        notDrawn();
        noBeastToBeRidden();
        ridesItOnce();
        marksAsDigits();
        watchesTogether();
        foul();
        scoreOf0Counts();
        buckedOffScores0();
        offeredBelow20();
        notOfferedIfItDoesNotCount();
        notOfferedOfAReRide();
        offerIsOfThatRiderAndRodeo();
        isOfferedRefused();
        untilThatIsAnswered();
        answerRefused();
        noneIsOffered();
        taken();
        takenAndRidden();
        takenWithoutBeasts();
        takenForThatPerformance();
        left();
        scoreRefused();
        scoreOrNone();
        beastIsRefused();
        tripsBuckOffsAndMarks();
        marksOfRidesThatCountOrNot();
        tripsOfReRides();
        rankNoneWithoutATrip();
        rankByFractions();
        rankByFractionsOfMarks();
        rankByTheLowerNumber();
        rankOfBothKinds();
        rankFrom0To15();
        Check.end("EdgesOfRidesTest");
    }

    /** One rider with a beast in the rodeo 0, on the day 10. */
    private static Office mounted() {
        Office x = World.of(1, 1);
        World.drawnRodeo(x, 10, 1, 100, 0);
        return x;
    }

    private static void rideOfNobody() {
        Check.sentence("13: IndexOutOfBoundsException as told, of the rodeo and rider");
        Office x = World.of(1, 2);
        World.drawnRodeo(x, 0, 2, 0, 0);
        Check.refusedEach(x, "rodeo", Check.INDEX, World.outside(0, 0), n -> x.ride(n, 0, TOP, FULL, false));
        Check.refusedEach(x, "rider", Check.INDEX, World.outside(0, 1), n -> x.ride(0, n, TOP, FULL, false));
        Check.refused(x, "rodeo 8", Check.INDEX, () -> x.ride(8, 0, TOP, FULL, false));
        Check.refused(x, "rider 12", Check.INDEX, () -> x.ride(0, 12, TOP, FULL, false));
    }

    private static void marksLeastAndGreatest() {
        Check.sentence("13: marks: 0 to 456975");
        Office x = mounted();
        Check.due("the least", 0, () -> x.ride(0, 0, 0, FULL, false));
        Check.due("no marks", 0, () -> x.beastIs(0, 3));
        Office y = mounted();
        Check.due("the greatest", 100, () -> y.ride(0, 0, 456975, FULL, false));
        Check.due("all marks", 50, () -> y.beastIs(0, 3));
        Office z = mounted();
        Check.due("one less", 99, () -> z.ride(0, 0, 456974, FULL, false));
        Check.due("the rider has one less", 50, () -> z.beastIs(0, 3));
    }

    private static void marksOneBeyond() {
        Check.sentence("13: IllegalArgumentException as told");
        Office x = mounted();
        int[] bad = World.outside(0, 456975);
        Check.refusedEach(x, "marks", Check.ARGUMENT, bad, marks -> x.ride(0, 0, marks, FULL, false));
        Check.refusedEach(x, "marks, a foul", Check.ARGUMENT, bad, marks -> x.ride(0, 0, marks, FULL, true));
        Check.refusedEach(x, "marks, too short", Check.ARGUMENT, bad, marks -> x.ride(0, 0, marks, 0, false));
        Check.due("rides all the same", 100, () -> x.ride(0, 0, TOP, FULL, false));
    }

    private static void watchesLeastAndGreatest() {
        Check.sentence("13: watches: 0 to 999999");
        Office x = mounted();
        Check.due("the least", 0, () -> x.ride(0, 0, TOP, 0, false));
        Check.due("bucked off", 1, () -> x.beastIs(0, 2));
        Office y = mounted();
        Check.due("the greatest", 100, () -> y.ride(0, 0, TOP, 999999, false));
        Check.due("counts", 0, () -> y.beastIs(0, 2));
    }

    private static void watchesOneBeyond() {
        Check.sentence("13: IllegalArgumentException as told");
        Office x = mounted();
        int[] bad = World.outside(0, 999999);
        Check.refusedEach(x, "watches", Check.ARGUMENT, bad, watches -> x.ride(0, 0, TOP, watches, false));
        Check.refusedEach(x, "watches, a foul", Check.ARGUMENT, bad, watches -> x.ride(0, 0, TOP, watches, true));
        Check.refused(x, "both", Check.ARGUMENT, () -> x.ride(0, 0, -1, -1, false));
        Check.due("rides all the same", 100, () -> x.ride(0, 0, TOP, FULL, false));
    }

    private static void indexAheadOfArgument() {
        Check.sentence("of several exceptions it is the first one of the throws clause");
        Office x = mounted();
        Check.refused(x, "rodeo and marks", Check.INDEX, () -> x.ride(1, 0, -1, FULL, false));
        Check.refused(x, "rodeo and watches", Check.INDEX, () -> x.ride(-1, 0, 0, 1000000, false));
        Check.refused(x, "rider and marks", Check.INDEX, () -> x.ride(0, 1, 456976, FULL, false));
        Check.refused(x, "rider and watches", Check.INDEX, () -> x.ride(0, -1, 0, -1, false));
        x.ride(0, 0, TOP, FULL, false);
        Check.refused(x, "rodeo, ridden", Check.INDEX, () -> x.ride(1, 0, TOP, FULL, false));
        Check.refused(x, "rider, ridden", Check.INDEX, () -> x.ride(0, 1, TOP, FULL, false));
        World.rodeo(x, 0, 1, 1);
        Check.refused(x, "rider, OPEN", Check.INDEX, () -> x.ride(1, 1, TOP, FULL, false));
    }

    private static void argumentAheadOfState() {
        Check.sentence("of several exceptions it is the first one of the throws clause");
        Office x = World.of(1, 2);
        int r = World.rodeo(x, 0, 1, 1);
        x.enter(r, 0, 1, 0);
        wrongArguments(x, r, 0, "OPEN");
        wrongArguments(x, r, 1, "OPEN, did not enter");
        x.close(r);
        wrongArguments(x, r, 0, "CLOSED");
        x.draw(r);
        wrongArguments(x, r, 1, "DRAWN, did not enter");
        World.weakRide(x, r, 0);
        wrongArguments(x, r, 0, "offered");
        x.answer(r, 0, false);
        wrongArguments(x, r, 0, "ridden");
        x.pay(r);
        wrongArguments(x, r, 0, "PAID");
    }

    private static void wrongArguments(Office x, int r, int k, String when) {
        Check.refused(x, when + ", marks -1", Check.ARGUMENT, () -> x.ride(r, k, -1, FULL, false));
        Check.refused(x, when + ", marks 456976", Check.ARGUMENT, () -> x.ride(r, k, 456976, FULL, false));
        Check.refused(x, when + ", watches -1", Check.ARGUMENT, () -> x.ride(r, k, TOP, -1, false));
        Check.refused(x, when + ", watches 1000000", Check.ARGUMENT, () -> x.ride(r, k, TOP, 1000000, false));
        Check.refused(x, when, Check.STATE, () -> x.ride(r, k, TOP, FULL, false));
    }

    private static void notDrawn() {
        Check.sentence("In a DRAWN rodeo a rider with a beast rides it; 13: if the rodeo is not DRAWN");
        Office x = World.of(1, 1);
        int r = World.rodeo(x, 0, 1, 1);
        Check.refused(x, "OPEN, nobody entered", Check.STATE, () -> x.ride(r, 0, TOP, FULL, false));
        x.enter(r, 0, 1, 0);
        Check.refused(x, "OPEN", Check.STATE, () -> x.ride(r, 0, TOP, FULL, false));
        x.close(r);
        Check.refused(x, "CLOSED", Check.STATE, () -> x.ride(r, 0, TOP, FULL, false));
        x.draw(r);
        Check.due("DRAWN", 100, () -> x.ride(r, 0, TOP, FULL, false));
        x.pay(r);
        Check.refused(x, "PAID", Check.STATE, () -> x.ride(r, 0, TOP, FULL, false));
    }

    private static void noBeastToBeRidden() {
        Check.sentence("13: or the rider has no beast that is to be ridden");
        Office x = World.of(1, 4);
        int r = World.rodeo(x, 0, 1, 2);
        for (int k = 0; k < 3; k++) {
            x.enter(r, k, 1, 0);
        }
        x.close(r);
        x.draw(r);
        Check.refused(x, "turned out", Check.STATE, () -> x.ride(r, 1, TOP, FULL, false));
        Check.refused(x, "out", Check.STATE, () -> x.ride(r, 2, TOP, FULL, false));
        Check.refused(x, "did not enter", Check.STATE, () -> x.ride(r, 3, TOP, FULL, false));
        Check.due("with a beast", 100, () -> x.ride(r, 0, TOP, FULL, false));
        // A beast in one rodeo is not to be ridden in another one.
        int s = World.rodeo(x, 5, 1, 2);
        x.enter(s, 1, 1, 0);
        x.enter(s, 0, 1, 0);
        x.close(s);
        x.draw(s);
        Check.refused(x, "turned out there, though ridden here", Check.STATE, () -> x.ride(s, 0, TOP, FULL, false));
        Check.refused(x, "turned out here, though mounted there", Check.STATE, () -> x.ride(r, 1, TOP, FULL, false));
        Check.due("there", 100, () -> x.ride(s, 1, TOP, FULL, false));
    }

    private static void ridesItOnce() {
        Check.sentence("a rider with a beast rides it once");
        Office good = mounted();
        good.ride(0, 0, TOP, FULL, false);
        Check.refused(good, "it counted", Check.STATE, () -> good.ride(0, 0, TOP, FULL, false));
        Office bad = mounted();
        bad.ride(0, 0, TOP, 0, false);
        Check.refused(bad, "it bucked off", Check.STATE, () -> bad.ride(0, 0, TOP, FULL, false));
        Office foul = mounted();
        foul.ride(0, 0, TOP, FULL, true);
        Check.refused(foul, "a foul", Check.STATE, () -> foul.ride(0, 0, TOP, FULL, false));
        Office none = mounted();
        none.ride(0, 0, Check.marks(0, 10, 0, 10), 0, false);
        Check.refused(none, "a score of 0", Check.STATE, () -> none.ride(0, 0, TOP, FULL, false));
    }

    private static void marksAsDigits() {
        Check.sentence("as digits of a number to the base 26, the first one lowest");
        // The number, all marks, those for the beast.
        int[][] rows = {{1, 1, 0}, {25, 25, 0}, {26, 1, 1}, {650, 25, 25}, {675, 50, 25}, {676, 1, 0},
            {16900, 25, 0}, {17575, 75, 25}, {17576, 1, 1}, {439400, 25, 25}, {17603, 3, 2},
            {1 + 26 * 2 + 676 * 4 + 17576 * 8, 15, 10}, {8 + 26 * 4 + 676 * 2 + 17576, 15, 5}};
        for (int[] row : rows) {
            Office x = mounted();
            Check.due("marks " + row[0], row[1], () -> x.ride(0, 0, row[0], FULL, false));
            Check.due("marks " + row[0] + ", score", row[1], () -> x.score(0, 0));
            Check.due("marks " + row[0] + ", for the beast", row[2], () -> x.beastIs(0, 3));
            Check.due("marks " + row[0] + ", offered", row[2] < 20, () -> x.isOffered(0, 0));
        }
    }

    private static void watchesTogether() {
        Check.sentence("and both watches together are at least 1600");
        for (int one = 0; one <= 999; one += one == 599 || one == 600 || one == 998 ? 1 : 40) {
            for (int sum = 1598; sum <= 1601; sum++) {
                int other = sum - one;
                if (other < 0 || other > 999) {
                    continue;
                }
                int watches = 1000 * one + other;
                int due = sum >= 1600 ? 100 : 0;
                Office x = mounted();
                Check.due("watches " + watches, due, () -> x.ride(0, 0, TOP, watches, false));
                Check.due("watches " + watches + ", buck-offs", due == 0 ? 1 : 0, () -> x.beastIs(0, 2));
            }
        }
        int[] watches = {601999, 999601, 600999, 999600, 602998, 601998, 999000, 999, 999999, 800800, 800799, 799800};
        int[] due = {100, 100, 0, 0, 100, 0, 0, 0, 100, 100, 0, 0};
        for (int i = 0; i < watches.length; i++) {
            int told = watches[i];
            Office x = mounted();
            Check.due("watches " + told, due[i], () -> x.ride(0, 0, TOP, told, false));
        }
    }

    private static void foul() {
        Check.sentence("It counts, if there was no foul and ..");
        for (int watches : new int[] {0, 800799, 800800, 999999}) {
            Office x = mounted();
            Check.due("a foul, watches " + watches, 0, () -> x.ride(0, 0, TOP, watches, true));
            Check.due("buck-offs", 1, () -> x.beastIs(0, 2));
            Check.due("trips", 1, () -> x.beastIs(0, 1));
            Check.due("counts", 0, () -> x.pay(0));
            Check.due("stays", 100, () -> x.rodeoIs(0, 4));
        }
    }

    private static void scoreOf0Counts() {
        Check.sentence("then its score is the four marks, together, perhaps 0");
        Office x = mounted();
        Check.due("0", 0, () -> x.ride(0, 0, 0, FULL, false));
        Check.due("no buck-off", 0, () -> x.beastIs(0, 2));
        Check.due("a re-ride is offered", true, () -> x.isOffered(0, 0));
        x.answer(0, 0, false);
        Check.due("score", 0, () -> x.score(0, 0));
        Check.due("counts", 1, () -> x.pay(0));
        Check.due("takes all", 100, () -> x.got(0, 0));
    }

    private static void buckedOffScores0() {
        Check.sentence("otherwise the beast has bucked off, and the score is 0");
        Office x = mounted();
        Check.due("all marks, too short", 0, () -> x.ride(0, 0, TOP, FULL - 1, false));
        Check.due("score", 0, () -> x.score(0, 0));
        Check.due("counts", 0, () -> x.pay(0));
        Check.due("gets nothing", 0, () -> x.got(0, 0));
        Check.due("score, PAID", 0, () -> x.score(0, 0));
    }

    private static void offeredBelow20() {
        Check.sentence("and both marks for the beast, together, are below 20 .. a re-ride is offered");
        for (int one = 0; one <= 25; one++) {
            for (int sum : new int[] {18, 19, 20, 21}) {
                int other = sum - one;
                if (other < 0 || other > 25) {
                    continue;
                }
                Office x = mounted();
                x.ride(0, 0, Check.marks(25, one, 25, other), FULL, false);
                Check.due(one + " and " + other, sum < 20, () -> x.isOffered(0, 0));
                Office y = mounted();
                y.ride(0, 0, Check.marks(0, one, 0, other), FULL, false);
                Check.due(one + " and " + other + ", none for the rider", sum < 20, () -> y.isOffered(0, 0));
            }
        }
        Office x = mounted();
        x.ride(0, 0, Check.marks(0, 25, 0, 25), FULL, false);
        Check.due("the rider's own marks don't matter", false, () -> x.isOffered(0, 0));
    }

    private static void notOfferedIfItDoesNotCount() {
        Check.sentence("If it counts, and ..");
        Office x = mounted();
        x.ride(0, 0, 0, FULL - 1, false);
        Check.due("too short", false, () -> x.isOffered(0, 0));
        Check.refused(x, "too short: answer", Check.STATE, () -> x.answer(0, 0, true));
        Office y = mounted();
        y.ride(0, 0, 0, 999999, true);
        Check.due("a foul", false, () -> y.isOffered(0, 0));
        Check.refused(y, "a foul: answer", Check.STATE, () -> y.answer(0, 0, false));
    }

    private static void notOfferedOfAReRide() {
        Check.sentence("and it is no re-ride");
        Office x = World.of(3, 1);
        int r = World.drawnRodeo(x, 0, 1, 0, 0);
        World.weakRide(x, r, 0);
        x.answer(r, 0, true);
        Check.due("not ridden", false, () -> x.isOffered(r, 0));
        x.ride(r, 0, 0, FULL, false);
        Check.due("a weak re-ride", false, () -> x.isOffered(r, 0));
        Check.refused(x, "no answer", Check.STATE, () -> x.answer(r, 0, true));
        Check.due("the score stands", 0, () -> x.score(r, 0));
        Check.due("it counts", 1, () -> x.pay(r));
        // The next rodeo's ride is no re-ride.
        int s = World.drawnRodeo(x, 5, 1, 0, 0);
        World.weakRide(x, s, 0);
        Check.due("in the next rodeo", true, () -> x.isOffered(s, 0));
    }

    private static void offerIsOfThatRiderAndRodeo() {
        Check.sentence("14: Tells whether a re-ride is offered to a rider, and not answered");
        Office x = World.of(4, 3);
        int r = World.drawnRodeo(x, 0, 2, 0, 0);
        int s = World.drawnRodeo(x, 5, 2, 0, 0);
        World.weakRide(x, r, 0);
        Check.due("that one", true, () -> x.isOffered(r, 0));
        Check.due("the other rider", false, () -> x.isOffered(r, 1));
        Check.due("one who did not enter", false, () -> x.isOffered(r, 2));
        Check.due("the other rodeo", false, () -> x.isOffered(s, 0));
        Check.refused(x, "the other rider: answer", Check.STATE, () -> x.answer(r, 1, true));
        Check.refused(x, "the other rodeo: answer", Check.STATE, () -> x.answer(s, 0, true));
        World.weakRide(x, r, 1);
        x.answer(r, 0, false);
        Check.due("answered", false, () -> x.isOffered(r, 0));
        Check.due("the other one's is open", true, () -> x.isOffered(r, 1));
        x.answer(r, 1, true);
        Check.due("answered too", false, () -> x.isOffered(r, 1));
    }

    private static void isOfferedRefused() {
        Check.sentence("14: IndexOutOfBoundsException as told, of the rodeo and rider");
        Office x = World.of(1, 2);
        int r = World.rodeo(x, 0, 1, 1);
        Check.refusedEach(x, "rodeo", Check.INDEX, World.outside(0, 0), n -> x.isOffered(n, 0));
        Check.refusedEach(x, "rider", Check.INDEX, World.outside(0, 1), n -> x.isOffered(r, n));
        Check.refused(x, "rider 12", Check.INDEX, () -> x.isOffered(r, 12));
        Check.due("OPEN, did not enter", false, () -> x.isOffered(r, 0));
        x.enter(r, 0, 1, 0);
        Check.due("OPEN", false, () -> x.isOffered(r, 0));
        x.close(r);
        Check.due("CLOSED", false, () -> x.isOffered(r, 0));
        x.draw(r);
        Check.due("DRAWN", false, () -> x.isOffered(r, 0));
        World.ride(x, r, 0, 60);
        Check.due("ridden", false, () -> x.isOffered(r, 0));
        x.pay(r);
        Check.due("PAID", false, () -> x.isOffered(r, 0));
    }

    private static void untilThatIsAnswered() {
        Check.sentence("Until that is answered the score stands, the rider does not ride, and the rodeo cannot be paid");
        Office x = World.of(2, 1);
        int r = World.drawnRodeo(x, 0, 1, 100, 0);
        World.weakRide(x, r, 0);
        Check.due("the score", 59, () -> x.score(r, 0));
        Check.refused(x, "does not ride", Check.STATE, () -> x.ride(r, 0, TOP, FULL, false));
        Check.refused(x, "cannot be paid", Check.STATE, () -> x.pay(r));
        x.answer(r, 0, false);
        Check.due("can be paid", 1, () -> x.pay(r));
    }

    private static void answerRefused() {
        Check.sentence("15: IndexOutOfBoundsException as told, of the rodeo and rider");
        Office x = World.of(2, 2);
        int r = World.drawnRodeo(x, 0, 1, 0, 0);
        World.weakRide(x, r, 0);
        Check.refusedEach(x, "rodeo", Check.INDEX, World.outside(0, 0), n -> x.answer(n, 0, true));
        Check.refusedEach(x, "rider", Check.INDEX, World.outside(0, 1), n -> x.answer(r, n, false));
        Check.refused(x, "rodeo 8", Check.INDEX, () -> x.answer(8, 0, true));
        Check.refused(x, "rider 12", Check.INDEX, () -> x.answer(r, 12, false));
        Check.due("the offer is open still", true, () -> x.isOffered(r, 0));
    }

    private static void noneIsOffered() {
        Check.sentence("15: if none is offered");
        for (int t = 0; t < 2; t++) {
            boolean isTaken = t == 1;
            Office x = World.of(1, 4);
            int r = World.rodeo(x, 0, 1, 2);
            Check.refused(x, "OPEN, did not enter", Check.STATE, () -> x.answer(r, 0, isTaken));
            for (int k = 0; k < 3; k++) {
                x.enter(r, k, 1, 0);
            }
            Check.refused(x, "OPEN", Check.STATE, () -> x.answer(r, 0, isTaken));
            x.close(r);
            Check.refused(x, "CLOSED", Check.STATE, () -> x.answer(r, 0, isTaken));
            x.draw(r);
            Check.refused(x, "not ridden", Check.STATE, () -> x.answer(r, 0, isTaken));
            Check.refused(x, "turned out", Check.STATE, () -> x.answer(r, 1, isTaken));
            Check.refused(x, "out", Check.STATE, () -> x.answer(r, 2, isTaken));
            Check.refused(x, "did not enter", Check.STATE, () -> x.answer(r, 3, isTaken));
            World.weakRide(x, r, 0);
            Check.due("offered", NONE, () -> x.answer(r, 0, isTaken));
            Check.refused(x, "answered: taken", Check.STATE, () -> x.answer(r, 0, true));
            Check.refused(x, "answered: left", Check.STATE, () -> x.answer(r, 0, false));
            x.pay(r);
            Check.refused(x, "PAID", Check.STATE, () -> x.answer(r, 0, isTaken));
        }
    }

    private static void taken() {
        Check.sentence("If it is taken, the score is gone, and a beast is drawn, as above, for that performance");
        Office x = World.of(16, 1);
        int r = World.drawnRodeo(x, 0, 1, 100, 0);
        Check.due("149 modulo 16", 5, () -> x.drawn(r, 0));
        World.weakRide(x, r, 0);
        // 11249 modulo 15 is 14: of 0 to 15 without 5, the last one.
        Check.due("the beast to be ridden", 15, () -> x.answer(r, 0, true));
        Check.due("the beast drawn", 15, () -> x.drawn(r, 0));
        Check.due("the score", NONE, () -> x.score(r, 0));
        Check.refused(x, "cannot be paid", Check.STATE, () -> x.pay(r));
        Check.due("the trip of the first one stays", 1, () -> x.beastIs(5, 1));
        Check.due("the other one has none yet", 0, () -> x.beastIs(15, 1));
    }

    private static void takenAndRidden() {
        Check.sentence("the rider rides that once more");
        Office x = World.of(2, 1);
        int r = World.drawnRodeo(x, 0, 1, 100, 0);
        World.weakRide(x, r, 0);
        x.answer(r, 0, true);
        Check.due("better", 100, () -> x.ride(r, 0, TOP, FULL, false));
        Check.due("the score", 100, () -> x.score(r, 0));
        Check.refused(x, "once", Check.STATE, () -> x.ride(r, 0, TOP, FULL, false));
        Check.due("counts once", 1, () -> x.pay(r));
        Check.due("takes all", 100, () -> x.got(r, 0));
        Office bad = World.of(2, 1);
        int s = World.drawnRodeo(bad, 0, 1, 100, 0);
        World.weakRide(bad, s, 0);
        bad.answer(s, 0, true);
        World.bucked(bad, s, 0);
        Check.due("bucked off", 0, () -> bad.score(s, 0));
        Check.due("the first ride counts no more", 0, () -> bad.pay(s));
        Check.due("all stays", 100, () -> bad.rodeoIs(s, 4));
    }

    private static void takenWithoutBeasts() {
        Check.sentence("without such beasts the rider is turned out (and the score is gone all the same)");
        Office x = World.of(1, 1);
        x.beast(H);
        int r = World.drawnRodeo(x, 0, 1, 100, 9);
        World.weakRide(x, r, 0);
        Check.due("none", NONE, () -> x.answer(r, 0, true));
        Check.due("no score", NONE, () -> x.score(r, 0));
        Check.due("no beast", NONE, () -> x.drawn(r, 0));
        Check.due("no offer", false, () -> x.isOffered(r, 0));
        Check.due("placed", 0, () -> x.placed(r, 0));
        Check.due("the trip stays", 1, () -> x.beastIs(0, 1));
        Check.due("the marks stay", 19, () -> x.beastIs(0, 3));
        Check.refused(x, "does not ride", Check.STATE, () -> x.ride(r, 0, TOP, FULL, false));
        Check.refused(x, "no answer", Check.STATE, () -> x.answer(r, 0, false));
        Check.due("can be paid, none counts", 0, () -> x.pay(r));
        Check.due("gets nothing", 0, () -> x.got(r, 0));
        Check.due("the fee stays in the pot", 109, () -> x.rodeoIs(r, 4));
        Check.due("no score, PAID", NONE, () -> x.score(r, 0));
    }

    private static void takenForThatPerformance() {
        Check.sentence("a beast is drawn, as above, for that performance");
        for (int performance = 0; performance < 3; performance++) {
            for (int d = 8; d <= 14; d++) {
                int day = d;
                Office x = bothDrawn(performance);
                int r = World.closedFor(x, 0, day, 1);
                int due = Math.abs(10 + performance - day) < 2 ? 0 : 1;
                Check.due("performance " + performance + ", then the day " + day, due, () -> x.draw(r));
            }
        }
    }

    /** Two beasts, both drawn for that performance of a rodeo from the day 10 on: the one for a re-ride. */
    private static Office bothDrawn(int performance) {
        Office x = World.of(2, 2);
        int r = World.rodeo(x, 10, 3, 1);
        x.enter(r, 0, 1 << performance, performance);
        x.close(r);
        x.draw(r);
        World.weakRide(x, r, 0);
        int other = 1 - x.drawn(r, 0);
        Check.due("the other one", other, () -> x.answer(r, 0, true));
        return x;
    }

    private static void left() {
        Check.sentence("If it is left, the score stays; 15: NONE if it is left");
        Office x = World.of(16, 1);
        int r = World.drawnRodeo(x, 0, 1, 100, 0);
        World.weakRide(x, r, 0);
        Check.due("left", NONE, () -> x.answer(r, 0, false));
        Check.due("the score", 59, () -> x.score(r, 0));
        Check.due("the beast", 5, () -> x.drawn(r, 0));
        Check.due("no offer", false, () -> x.isOffered(r, 0));
        Check.refused(x, "does not ride again", Check.STATE, () -> x.ride(r, 0, TOP, FULL, false));
        Check.due("counts", 1, () -> x.pay(r));
        Check.due("takes all", 100, () -> x.got(r, 0));
        int s = World.drawnRodeo(x, 5, 1, 0, 0);
        Check.due("no draw was made", 11249 % 16, () -> x.drawn(s, 0));
    }

    private static void scoreRefused() {
        Check.sentence("16: IndexOutOfBoundsException as told, of the rodeo and rider");
        Office x = World.of(1, 2);
        int r = World.drawnRodeo(x, 0, 1, 0, 0);
        Check.refusedEach(x, "rodeo", Check.INDEX, World.outside(0, 0), n -> x.score(n, 0));
        Check.refusedEach(x, "rider", Check.INDEX, World.outside(0, 1), n -> x.score(r, n));
        Check.refused(x, "rider 12", Check.INDEX, () -> x.score(r, 12));
        Check.due("the last rider", NONE, () -> x.score(r, 1));
    }

    private static void scoreOrNone() {
        Check.sentence("16: Returns NONE without a ride, or if it is gone; 0 of a buck-off");
        Office x = World.of(2, 4);
        int r = World.rodeo(x, 0, 1, 3);
        Check.due("did not enter", NONE, () -> x.score(r, 0));
        for (int k = 0; k < 4; k++) {
            x.enter(r, k, 1, 0);
        }
        Check.due("OPEN", NONE, () -> x.score(r, 0));
        x.close(r);
        Check.due("CLOSED", NONE, () -> x.score(r, 0));
        x.draw(r);
        Check.due("not ridden", NONE, () -> x.score(r, 0));
        Check.due("turned out", NONE, () -> x.score(r, 2));
        Check.due("out", NONE, () -> x.score(r, 3));
        World.bucked(x, r, 0);
        Check.due("of a buck-off", 0, () -> x.score(r, 0));
        Check.due("another one's", NONE, () -> x.score(r, 1));
        World.weakRide(x, r, 1);
        Check.due("offered", 59, () -> x.score(r, 1));
        x.answer(r, 1, true);
        Check.due("gone", NONE, () -> x.score(r, 1));
        x.pay(r);
        Check.due("of a buck-off, PAID", 0, () -> x.score(r, 0));
        Check.due("gone, PAID", NONE, () -> x.score(r, 1));
        Check.due("turned out, PAID", NONE, () -> x.score(r, 2));
    }

    private static void beastIsRefused() {
        Check.sentence("17: what: 0 to 4; IndexOutOfBoundsException, IllegalArgumentException as told");
        Office x = World.of(0, 0);
        for (int beasts = 0; beasts <= 16; beasts++) {
            Check.refusedEach(x, "with " + beasts + ", beast", Check.INDEX, World.outside(0, beasts - 1),
                n -> x.beastIs(n, 0));
            Check.refusedEach(x, "of no beast, what", Check.INDEX, World.outside(0, 4), what -> x.beastIs(16, what));
            if (beasts < 16) {
                x.beast(beasts % 2);
            }
        }
        Check.refusedEach(x, "what", Check.ARGUMENT, World.outside(0, 4), what -> x.beastIs(0, what));
        Check.refusedEach(x, "of the last one, what", Check.ARGUMENT, World.outside(0, 4), what -> x.beastIs(15, what));
        for (int b = 0; b < 16; b++) {
            dueBeast(x, "new", b, b % 2, 0, 0, 0, NONE);
        }
    }

    private static void dueBeast(Office x, String when, int beast, int... answers) {
        for (int what = 0; what < answers.length; what++) {
            int asked = what;
            Check.due(when + ": beast " + beast + ", what " + what, answers[what], () -> x.beastIs(beast, asked));
        }
    }

    private static void tripsBuckOffsAndMarks() {
        Check.sentence("A beast has as many trips as it was ridden, as many buck-offs, and as marks all marks ..");
        Office x = World.of(1, 8);
        int trips = 0;
        int buckOffs = 0;
        int marks = 0;
        for (int i = 0; i < 8; i++) {
            int r = World.closedFor(x, 0, 5 * i, i);
            x.draw(r);
            dueBeast(x, "drawn", 0, B, trips, buckOffs, marks, trips == 0 ? NONE : 0);
            boolean isFoul = i % 3 == 0;
            x.ride(r, i, Check.marks(25, 3 * i, 25, 25 - i), i % 4 == 1 ? FULL - 1 : FULL, isFoul);
            trips++;
            buckOffs += isFoul || i % 4 == 1 ? 1 : 0;
            marks += 25 + 2 * i;
            dueBeast(x, "ridden", 0, B, trips, buckOffs, marks, 0);
            if (x.isOffered(r, i)) {
                x.answer(r, i, false);
            }
            x.pay(r);
            dueBeast(x, "paid", 0, B, trips, buckOffs, marks, 0);
        }
    }

    private static void marksOfRidesThatCountOrNot() {
        Check.sentence("all marks that judges told for it, of rides that count or not");
        Office foul = mounted();
        foul.ride(0, 0, Check.marks(1, 20, 2, 22), FULL, true);
        dueBeast(foul, "a foul", 0, B, 1, 1, 42, 0);
        Office bucked = mounted();
        bucked.ride(0, 0, Check.marks(1, 20, 2, 22), FULL - 1, false);
        dueBeast(bucked, "too short", 0, B, 1, 1, 42, 0);
        Office good = mounted();
        good.ride(0, 0, Check.marks(1, 20, 2, 22), FULL, false);
        dueBeast(good, "it counts", 0, B, 1, 0, 42, 0);
    }

    private static void tripsOfReRides() {
        Check.sentence("A beast has as many trips as it was ridden");
        Office x = World.of(2, 1);
        int r = World.drawnRodeo(x, 0, 1, 0, 0);
        World.weakRide(x, r, 0);
        dueBeast(x, "offered", 1, B, 1, 0, 19, 0);
        x.answer(r, 0, true);
        dueBeast(x, "the score is gone, the trip is not", 1, B, 1, 0, 19, 0);
        dueBeast(x, "drawn for the re-ride", 0, B, 0, 0, 0, NONE);
        World.bucked(x, r, 0);
        dueBeast(x, "the re-ride", 0, B, 1, 1, 20, 0);
        dueBeast(x, "behind that one", 1, B, 1, 0, 19, 1);
    }

    private static void rankNoneWithoutATrip() {
        Check.sentence("17: 4 its rank, from 0, NONE without a trip");
        Office x = World.of(3, 2);
        for (int b = 0; b < 3; b++) {
            dueBeast(x, "new", b, B, 0, 0, 0, NONE);
        }
        int r = World.drawnRodeo(x, 0, 1, 0, 0);
        for (int b = 0; b < 3; b++) {
            dueBeast(x, "drawn", b, B, 0, 0, 0, NONE);
        }
        x.ride(r, 0, 0, FULL, false);
        for (int b = 0; b < 3; b++) {
            int beast = b;
            // A trip without buck-off and marks makes a rank, and those without a trip don't matter.
            Check.due("ridden, beast " + b, b == 2 ? 0 : NONE, () -> x.beastIs(beast, 4));
        }
    }

    /**
     * For each beast its rides, one digit each: 1 a buck-off, 0 none; and the marks of each ride.
     * A rider for each day and beast: as many beasts as there are rides in a rodeo's performance.
     */
    private static Office ridden(String[] buckOffs, int[][] marks) {
        Office x = World.of(buckOffs.length, 12);
        for (int round = 0; round < 16; round++) {
            int r = round / 2;
            if (round % 2 == 0) {
                World.rodeo(x, 7 * r, 3, 4);
                for (int k = 0; k < 8; k++) {
                    x.enter(r, k, k < 4 ? 1 : 4, k < 4 ? 0 : 2);
                }
                x.close(r);
                x.draw(r);
            }
            for (int k = round % 2 * 4; k < round % 2 * 4 + 4; k++) {
                int b = x.drawn(r, k);
                if (b != NONE && round < buckOffs[b].length()) {
                    int told = marks[b][round];
                    boolean isFoul = buckOffs[b].charAt(round) == '1';
                    x.ride(r, k, Check.marks(0, told / 2, 0, told - told / 2), FULL, isFoul);
                }
            }
        }
        return x;
    }

    private static int[] marksOf(int rides, int each) {
        int[] marks = new int[rides];
        Arrays.fill(marks, each);
        return marks;
    }

    private static void dueRanks(String[] buckOffs, int[][] marks, int... ranks) {
        Office x = ridden(buckOffs, marks);
        for (int b = 0; b < ranks.length; b++) {
            int beast = b;
            String what = String.join(" ", buckOffs) + ", beast " + b;
            Check.due(what + ": trips", buckOffs[b].length(), () -> x.beastIs(beast, 1));
            Check.due(what + ": rank", ranks[b], () -> x.beastIs(beast, 4));
        }
    }

    private static void rankByFractions() {
        Check.sentence("by buck-offs by trips (as fractions, the greatest first)");
        int[][] like = {marksOf(16, 30), marksOf(16, 30), marksOf(16, 30), marksOf(16, 30)};
        dueRanks(new String[] {"0", "1", "10", "100"}, like, 3, 0, 1, 2);
        // 1 by 3 and 2 by 5, alike as whole numbers; 3 by 7 and 4 by 9.
        dueRanks(new String[] {"100", "11000", "1110000", "111100000"}, like, 3, 2, 1, 0);
        // Few buck-offs of few trips ahead of many of many.
        dueRanks(new String[] {"1110", "1", "1111110", "11111110"}, like, 3, 0, 2, 1);
        // Fractions that are near: 6 by 15, 3 by 8, 2 by 5 and 5 by 13.
        dueRanks(new String[] {"111111000000000", "11100000", "11000", "1111100000000"}, like, 0, 3, 1, 2);
        // Alike when they are shortened, so that the lower number is ahead.
        dueRanks(new String[] {"1100", "10", "111000", "11110000"}, like, 0, 1, 2, 3);
        dueRanks(new String[] {"1111", "1", "0", "00000"}, like, 0, 1, 2, 3);
    }

    private static void rankByFractionsOfMarks() {
        Check.sentence("then by marks by trips (likewise)");
        int[][] marks = {{20, 21}, {21}, {21, 21, 20}, {20, 20, 21, 21, 21}};
        // 20.5, 21, 20.66 and 20.6: alike as whole numbers but for one.
        dueRanks(new String[] {"00", "0", "000", "00000"}, marks, 3, 0, 1, 2);
        dueRanks(new String[] {"11", "1", "111", "11111"}, marks, 3, 0, 1, 2);
        // More marks by more trips are less.
        int[][] many = {{20, 20, 20}, {50}, {30, 30}, {26, 26, 26, 26}};
        dueRanks(new String[] {"000", "0", "00", "0000"}, many, 3, 0, 1, 2);
        // The buck-offs come first.
        dueRanks(new String[] {"000", "0", "01", "0001"}, many, 3, 2, 0, 1);
        // No marks at all.
        int[][] none = {{0}, {0, 1}, {0, 0, 0}, {0, 0, 1}};
        dueRanks(new String[] {"1", "11", "111", "111"}, none, 2, 0, 3, 1);
    }

    private static void rankByTheLowerNumber() {
        Check.sentence("then the lower number");
        int[][] like = {marksOf(16, 22), marksOf(16, 22), marksOf(16, 22), marksOf(16, 22)};
        dueRanks(new String[] {"0", "0", "0", "0"}, like, 0, 1, 2, 3);
        dueRanks(new String[] {"00", "0", "0000", "000"}, like, 0, 1, 2, 3);
        dueRanks(new String[] {"1", "11", "1", "111"}, like, 0, 1, 2, 3);
        dueRanks(new String[] {"", "0", "", "0"}, like, NONE, 0, NONE, 1);
    }

    private static void rankOfBothKinds() {
        Check.sentence("Beasts are ranked, of those with a trip");
        Office x = new Office();
        x.beast(B);
        x.beast(H);
        x.rider();
        for (int kind = B; kind <= H; kind++) {
            int r = x.rodeo(kind, 0, 5 * kind, 1, 1, 0, 0);
            x.enter(r, 0, 1, 0);
            x.close(r);
            x.draw(r);
            x.ride(r, 0, TOP, FULL, kind == H);
        }
        Check.due("the horse bucked off", 0, () -> x.beastIs(1, 4));
        Check.due("the bull did not", 1, () -> x.beastIs(0, 4));
    }

    private static void rankFrom0To15() {
        Check.sentence("4 its rank, from 0");
        Office x = World.of(16, 8);
        int r = World.rodeo(x, 0, 2, 4);
        int s = World.rodeo(x, 1, 1, 4);
        int t = World.rodeo(x, 1, 1, 4);
        for (int k = 0; k < 8; k++) {
            x.enter(r, k, 3, k / 4);
        }
        x.close(r);
        x.draw(r);
        for (int k = 8; k < 12; k++) {
            x.rider();
        }
        for (int k = 8; k < 12; k++) {
            x.enter(s, k, 1, 0);
        }
        x.close(s);
        x.draw(s);
        for (int k = 0; k < 4; k++) {
            x.enter(t, k, 1, 0);
        }
        x.close(t);
        x.draw(t);
        for (int k = 0; k < 12; k++) {
            rideByNumber(x, k < 8 ? r : s, k);
        }
        for (int k = 0; k < 4; k++) {
            rideByNumber(x, t, k);
        }
        for (int b = 0; b < 16; b++) {
            int beast = b;
            Check.due("beast " + b, 15 - b, () -> x.beastIs(beast, 4));
        }
    }

    /** The higher the number of the beast, the more marks. */
    private static void rideByNumber(Office x, int r, int k) {
        int b = x.drawn(r, k);
        x.ride(r, k, Check.marks(0, 10 + b / 2, 0, 10 + b - b / 2), FULL, false);
    }
}
