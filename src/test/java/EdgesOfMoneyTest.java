/** Promises 18 to 22: each sentence of the document that names an edge. */
public final class EdgesOfMoneyTest {
    private static final int B = RankStock.BULL, H = RankStock.HORSE, NONE = RankStock.NONE;
    /** A buck-off, in a list of scores. */
    private static final int BUCKED = -1;
    /** A ride whose score is lost, as a re-ride was taken for which there was no beast. */
    private static final int LOST = -2;
    /** The re-ride is taken, and bucked off. */
    private static final int RE_RIDDEN = -3;

    public static void main(String[] args) {
        payRefused();
        whenItIsDrawn();
        eachPlacedRiderHasRidden();
        reRidesToo();
        noOfferIsOpen();
        turnedOutOnesDoNotHinder();
        payWithoutEntries();
        returnsHowManyCount();
        feesOfEachWhoWasPlaced();
        sharesOfFour();
        eachRoundedDown();
        tiesForEachPlace();
        tiesRoundedDown();
        tiesBeyondTheLastPlace();
        scoresAndNotTheOrder();
        buckOffsTakeNoPlace();
        lostRidesTakeNoPlace();
        groundMoneyOf1();
        groundMoneyOf2();
        groundMoneyOf3();
        noGroundMoneyOf4();
        groundMoneyRoundedByItself();
        allStaysIfNoneCounts();
        theGreatestPot();
        theLeastPots();
        eachPotAndCount();
        gotRefused();
        got0AheadOfBeingPaid();
        gotFromThatRodeo();
        countsRefused();
        countsFewerThanThree();
        countsTheThreeGreatest();
        rankedRefused();
        rankedOfNobody();
        rankedNoneIfNotSoMany();
        rankedByWhatTheyCount();
        rankedByAllPays();
        rankedByTheLowerNumber();
        rankedByNow();
        balances();
        Check.end("EdgesOfMoneyTest");
    }

    private static void payRefused() {
        Check.sentence("18: IndexOutOfBoundsException as told");
        Office x = World.of(1, 1);
        World.drawnRodeo(x, 0, 1, 0, 0);
        Check.refusedEach(x, "rodeo", Check.INDEX, World.outside(0, 0), n -> x.pay(n));
        World.ride(x, 0, 0, 60);
        Check.refusedEach(x, "rodeo, all ridden", Check.INDEX, World.outside(0, 0), n -> x.pay(n));
    }

    private static void whenItIsDrawn() {
        Check.sentence("A rodeo can be paid when it is DRAWN; 18: if it cannot be paid");
        Office x = World.of(1, 1);
        int r = World.rodeo(x, 0, 1, 1);
        Check.refused(x, "OPEN, without entries", Check.STATE, () -> x.pay(r));
        int s = World.rodeo(x, 0, 1, 1);
        x.enter(s, 0, 1, 0);
        Check.refused(x, "OPEN", Check.STATE, () -> x.pay(s));
        x.close(r);
        Check.refused(x, "CLOSED, without entries", Check.STATE, () -> x.pay(r));
        x.close(s);
        Check.refused(x, "CLOSED", Check.STATE, () -> x.pay(s));
        x.draw(r);
        Check.due("DRAWN, without entries", 0, () -> x.pay(r));
        x.draw(s);
        World.ride(x, s, 0, 60);
        Check.due("DRAWN", 1, () -> x.pay(s));
        Check.refused(x, "PAID, without entries", Check.STATE, () -> x.pay(r));
        Check.refused(x, "PAID", Check.STATE, () -> x.pay(s));
    }

    private static void eachPlacedRiderHasRidden() {
        Check.sentence("each placed rider who was not turned out has ridden");
        for (int last = 0; last < 4; last++) {
            Office x = World.of(4, 4);
            int r = World.drawnRodeo(x, 0, 4, 100, 0);
            for (int k = 0; k < 4; k++) {
                if (k != last) {
                    Check.refused(x, "not yet", Check.STATE, () -> x.pay(r));
                    World.ride(x, r, k, 60);
                }
            }
            Check.refused(x, "all but " + last, Check.STATE, () -> x.pay(r));
            World.bucked(x, r, last);
            Check.due("all", 3, () -> x.pay(r));
        }
    }

    private static void reRidesToo() {
        Check.sentence("has ridden, re-rides too");
        Office x = World.of(3, 2);
        int r = World.drawnRodeo(x, 0, 2, 100, 0);
        World.weakRide(x, r, 0);
        World.ride(x, r, 1, 60);
        x.answer(r, 0, true);
        Check.refused(x, "the re-ride is not ridden", Check.STATE, () -> x.pay(r));
        World.ride(x, r, 0, 70);
        Check.due("it is", 2, () -> x.pay(r));
        Check.due("by the score of the re-ride", 55, () -> x.got(r, 0));
    }

    private static void noOfferIsOpen() {
        Check.sentence("and no offer is open");
        for (int offered = 0; offered < 3; offered++) {
            Office x = World.of(3, 3);
            int r = World.drawnRodeo(x, 0, 3, 100, 0);
            for (int k = 0; k < 3; k++) {
                if (k == offered) {
                    World.weakRide(x, r, k);
                } else {
                    World.ride(x, r, k, 60);
                }
            }
            Check.refused(x, "the offer to " + offered, Check.STATE, () -> x.pay(r));
            x.answer(r, offered, false);
            Check.due("answered", 3, () -> x.pay(r));
        }
    }

    private static void turnedOutOnesDoNotHinder() {
        Check.sentence("each placed rider who was not turned out");
        Office x = World.of(0, 4);
        int r = World.drawnRodeo(x, 0, 4, 100, 1);
        Check.due("all are turned out", 0, () -> x.pay(r));
        Check.due("all stays", 104, () -> x.rodeoIs(r, 4));
        Office y = World.of(1, 2);
        int s = World.drawnRodeo(y, 0, 2, 100, 1);
        World.weakRide(y, s, 0);
        y.answer(s, 0, true);
        Check.due("one of a re-ride", 0, () -> y.pay(s));
        Check.due("all stays", 102, () -> y.rodeoIs(s, 4));
    }

    private static void payWithoutEntries() {
        Check.sentence("(A rodeo can be closed without entries.) .. all of it, if no ride counts");
        for (int added : new int[] {0, 1, 99999}) {
            Office x = new Office();
            int r = x.rodeo(H, 0, 0, 1, 1, added, 999);
            x.close(r);
            x.draw(r);
            Check.due("nobody", 0, () -> x.pay(r));
            Check.due("the pot", added, () -> x.rodeoIs(r, 3));
            Check.due("stays", added, () -> x.rodeoIs(r, 4));
        }
    }

    /** A rodeo with these scores, 20 to 70, or lower ones for which a re-ride is left; not paid. */
    private static Office scored(int added, int fee, int... scores) {
        int beasts = 0;
        for (int score : scores) {
            beasts += score == RE_RIDDEN ? 2 : 1;
        }
        Office x = World.of(beasts, scores.length);
        int r = x.rodeo(B, 0, 10, 4, 4, added, fee);
        for (int k = 0; k < scores.length; k++) {
            // All on one day up to four, so that all beasts are needed; else on days that are apart.
            int p = scores.length > 4 ? k % 2 * 2 : 0;
            x.enter(r, k, 1 << p, p);
        }
        x.close(r);
        x.draw(r);
        for (int k = 0; k < scores.length; k++) {
            score(x, r, k, scores[k]);
        }
        return x;
    }

    private static void score(Office x, int r, int k, int score) {
        if (score == BUCKED) {
            World.bucked(x, r, k);
        } else if (score == LOST || score == RE_RIDDEN) {
            World.weakRide(x, r, k);
            int beast = x.answer(r, k, true);
            Check.same("a beast for the re-ride", score == RE_RIDDEN, beast != NONE);
            if (beast != NONE) {
                World.bucked(x, r, k);
            }
        } else if (score < 20) {
            x.ride(r, k, Check.marks(score / 2, 0, score - score / 2, 0), World.FULL, false);
            x.answer(r, k, false);
        } else {
            World.ride(x, r, k, score);
        }
    }

    /** Pays; the last one of the dues is what stays with the office. */
    private static void duePays(Office x, int count, int... dues) {
        Check.due("how many count", count, () -> x.pay(0));
        for (int k = 0; k < dues.length - 1; k++) {
            int rider = k;
            Check.due("rider " + k + " of " + (dues.length - 1), dues[k], () -> x.got(0, rider));
        }
        Check.due("stays", dues[dues.length - 1], () -> x.rodeoIs(0, 4));
        Check.due("balances", true, () -> x.balances());
        Check.due("is", RankStock.PAID, () -> x.rodeoIs(0, 0));
    }

    private static void returnsHowManyCount() {
        Check.sentence("18: Returns how many rides count");
        duePays(scored(0, 0, BUCKED), 0, 0, 0);
        duePays(scored(0, 0, 60), 1, 0, 0);
        duePays(scored(0, 0, 60, BUCKED), 1, 0, 0, 0);
        duePays(scored(0, 0, 60, 0, 19), 3, 0, 0, 0, 0);
        duePays(scored(0, 0, 60, 60, 60, 60), 4, 0, 0, 0, 0, 0);
        duePays(scored(0, 0, 60, 60, 60, 60, 60, 60, 60, 60), 8, 0, 0, 0, 0, 0, 0, 0, 0, 0);
    }

    private static void feesOfEachWhoWasPlaced() {
        Check.sentence("Its pot is the money added, and the fee for each rider who was placed");
        duePays(scored(0, 10, 60, 50, 40, 30), 4, 16, 12, 8, 4, 0);
        duePays(scored(60, 10, 60, BUCKED, BUCKED, BUCKED), 1, 100, 0, 0, 0, 0);
        Office x = World.of(4, 6);
        int r = x.rodeo(B, 0, 0, 1, 4, 0, 100);
        for (int k = 0; k < 6; k++) {
            x.enter(r, k, 1, 0);
        }
        x.close(r);
        x.draw(r);
        for (int k = 0; k < 4; k++) {
            World.ride(x, r, k, 60 - k);
        }
        duePays(x, 4, 160, 120, 80, 40, 0, 0, 0);
        Office y = World.of(2, 4);
        int s = y.rodeo(B, 0, 0, 1, 4, 0, 25);
        for (int k = 0; k < 4; k++) {
            y.enter(s, k, 1, 0);
        }
        y.close(s);
        y.draw(s);
        World.ride(y, s, 0, 60);
        World.ride(y, s, 1, 50);
        // The fees of the two who are turned out are in the pot of 100; 30 of it are ground money.
        duePays(y, 2, 55, 45, 0, 0, 0);
    }

    private static void sharesOfFour() {
        Check.sentence("The places 1 to 4 get 40, 30, 20 and 10 hundredths of it");
        duePays(scored(100, 0, 70, 60, 50, 40), 4, 40, 30, 20, 10, 0);
        duePays(scored(1000, 0, 40, 50, 60, 70), 4, 100, 200, 300, 400, 0);
        duePays(scored(100, 0, 70, 60, 50, 40, 30, 20), 6, 40, 30, 20, 10, 0, 0, 0);
    }

    private static void eachRoundedDown() {
        Check.sentence("each rounded down");
        duePays(scored(99, 0, 70, 60, 50, 40), 4, 39, 29, 19, 9, 3);
        duePays(scored(9, 0, 70, 60, 50, 40), 4, 3, 2, 1, 0, 3);
        duePays(scored(109, 0, 70, 60, 50, 40), 4, 43, 32, 21, 10, 3);
        duePays(scored(101, 0, 70, 60, 50, 40), 4, 40, 30, 20, 10, 1);
        // Rounded for each place, ahead of a tie or of ground money: 39 and 29, not 69.3.
        duePays(scored(99, 0, 70, 70, 50, 40), 4, 34, 34, 19, 9, 3);
        duePays(scored(99, 0, 70), 1, 96, 3);
    }

    private static void tiesForEachPlace() {
        Check.sentence("of those with like scores each gets what their places get together, by how many they are");
        duePays(scored(600, 0, 70, 70, 50, 40), 4, 210, 210, 120, 60, 0);
        duePays(scored(600, 0, 70, 60, 60, 40), 4, 240, 150, 150, 60, 0);
        duePays(scored(600, 0, 70, 60, 50, 50), 4, 240, 180, 90, 90, 0);
        duePays(scored(600, 0, 70, 70, 70, 40), 4, 180, 180, 180, 60, 0);
        duePays(scored(600, 0, 70, 60, 60, 60), 4, 240, 120, 120, 120, 0);
        duePays(scored(600, 0, 70, 70, 70, 70), 4, 150, 150, 150, 150, 0);
        duePays(scored(600, 0, 70, 70, 50, 50), 4, 210, 210, 90, 90, 0);
        duePays(scored(600, 0, 50, 70, 50, 70), 4, 90, 210, 90, 210, 0);
        duePays(scored(600, 0, 0, 0, 70, 70), 4, 90, 90, 210, 210, 0);
    }

    private static void tiesRoundedDown() {
        Check.sentence("by how many they are, rounded down");
        // 404, 303, 202 and 101 of 1010.
        duePays(scored(1010, 0, 70, 70, 50, 40), 4, 353, 353, 202, 101, 1);
        duePays(scored(1010, 0, 70, 60, 60, 40), 4, 404, 252, 252, 101, 1);
        duePays(scored(1010, 0, 70, 60, 50, 50), 4, 404, 303, 151, 151, 1);
        duePays(scored(1010, 0, 70, 60, 60, 60), 4, 404, 202, 202, 202, 0);
        duePays(scored(1010, 0, 70, 70, 70, 70), 4, 252, 252, 252, 252, 2);
        duePays(scored(1010, 0, 70, 70, 70, 40), 4, 303, 303, 303, 101, 0);
    }

    private static void tiesBeyondTheLastPlace() {
        Check.sentence("each gets what their places get together");
        duePays(scored(1000, 0, 70, 60, 50, 40, 40), 5, 400, 300, 200, 50, 50, 0);
        duePays(scored(1000, 0, 70, 60, 50, 40, 40, 40), 6, 400, 300, 200, 33, 33, 33, 1);
        duePays(scored(1000, 0, 70, 60, 50, 50, 50), 5, 400, 300, 100, 100, 100, 0);
        duePays(scored(1000, 0, 70, 60, 60, 60, 60), 5, 400, 150, 150, 150, 150, 0);
        duePays(scored(1000, 0, 60, 60, 60, 60, 60), 5, 200, 200, 200, 200, 200, 0);
        duePays(scored(1000, 0, 60, 60, 60, 60, 60, 60), 6, 166, 166, 166, 166, 166, 166, 4);
        duePays(scored(1000, 0, 60, 60, 60, 60, 60, 60, 60, 60), 8, 125, 125, 125, 125, 125, 125, 125, 125, 0);
        duePays(scored(1000, 0, 70, 60, 50, 40, 30, 30), 6, 400, 300, 200, 100, 0, 0, 0);
        duePays(scored(1000, 0, 70, 70, 70, 70, 30), 5, 250, 250, 250, 250, 0, 0);
        duePays(scored(3, 0, 60, 60, 60, 60, 60), 5, 0, 0, 0, 0, 0, 3);
    }

    private static void scoresAndNotTheOrder() {
        Check.sentence("Those whose ride counts, by scores, the greatest first, take the places");
        int[][] orders = {{70, 60, 50, 40}, {40, 50, 60, 70}, {60, 40, 70, 50}, {50, 70, 40, 60}};
        for (int[] scores : orders) {
            int[] dues = new int[5];
            for (int k = 0; k < 4; k++) {
                dues[k] = (scores[k] - 30) * 10;
            }
            duePays(scored(1000, 0, scores), 4, dues);
        }
        duePays(scored(1000, 0, 30, 31, 29, 32, 28), 5, 200, 300, 100, 400, 0, 0);
    }

    private static void buckOffsTakeNoPlace() {
        Check.sentence("Those whose ride counts");
        duePays(scored(1000, 0, BUCKED, 70, 60, 50, 40), 4, 0, 400, 300, 200, 100, 0);
        duePays(scored(1000, 0, BUCKED, 0, BUCKED, BUCKED), 1, 0, 1000, 0, 0, 0);
        duePays(scored(1000, 0, 70, 60, 50, 0, BUCKED), 4, 400, 300, 200, 100, 0, 0);
        duePays(scored(1000, 0, 0, 0, 0, 0, BUCKED), 4, 250, 250, 250, 250, 0, 0);
    }

    private static void lostRidesTakeNoPlace() {
        Check.sentence("(and the score is gone all the same); Those whose ride counts");
        duePays(scored(1000, 0, LOST, 30, 20), 2, 0, 550, 450, 0);
        duePays(scored(1000, 0, LOST), 0, 0, 1000);
        duePays(scored(1000, 0, LOST, LOST), 0, 0, 0, 1000);
        duePays(scored(1000, 0, RE_RIDDEN, 30), 1, 0, 1000, 0);
        duePays(scored(1000, 0, RE_RIDDEN), 0, 0, 1000);
    }

    private static void groundMoneyOf1() {
        Check.sentence("If fewer than 4 have a ride that counts, and at least one .. is ground money");
        duePays(scored(100, 0, 60), 1, 100, 0);
        duePays(scored(100, 0, 60, BUCKED, BUCKED, BUCKED), 1, 100, 0, 0, 0, 0);
        duePays(scored(109, 0, 0), 1, 106, 3);
    }

    private static void groundMoneyOf2() {
        Check.sentence("each of these riders gets it by how many they are, rounded down, besides");
        duePays(scored(100, 0, 60, 50), 2, 55, 45, 0);
        duePays(scored(100, 0, 50, 60, BUCKED), 2, 45, 55, 0, 0);
        duePays(scored(100, 0, 60, 60), 2, 50, 50, 0);
        // 44, 33, 22 and 11 of 110: 33 for two, 16 each.
        duePays(scored(110, 0, 60, 50), 2, 60, 49, 1);
        // 77 for two and 33 for two: 38 and 16.
        duePays(scored(110, 0, 60, 60), 2, 54, 54, 2);
    }

    private static void groundMoneyOf3() {
        Check.sentence("what the places left get, together, is ground money");
        duePays(scored(300, 0, 60, 50, 40), 3, 130, 100, 70, 0);
        duePays(scored(100, 0, 60, 50, 40), 3, 43, 33, 23, 1);
        duePays(scored(110, 0, 60, 50, 40), 3, 47, 36, 25, 2);
        duePays(scored(100, 0, 60, 60, 40), 3, 38, 38, 23, 1);
        duePays(scored(100, 0, 60, 50, 50), 3, 43, 28, 28, 1);
        duePays(scored(100, 0, 50, 50, 50), 3, 33, 33, 33, 1);
        duePays(scored(100, 0, 60, 50, 40, BUCKED, BUCKED), 3, 43, 33, 23, 0, 0, 1);
    }

    private static void noGroundMoneyOf4() {
        Check.sentence("If fewer than 4 have a ride that counts");
        duePays(scored(109, 0, 60, 50, 40, 30), 4, 43, 32, 21, 10, 3);
        duePays(scored(109, 0, 60, 50, 40, 30, BUCKED), 4, 43, 32, 21, 10, 0, 3);
        duePays(scored(109, 0, 60, 50, 40, 30, 20), 5, 43, 32, 21, 10, 0, 3);
    }

    /** What is rounded off of a tie is no ground money, and the other way round. */
    private static void groundMoneyRoundedByItself() {
        Check.sentence("each of these riders gets it by how many they are, rounded down, besides");
        // 4, 3, 2 and 1 of 10: 7 for two and 3 for two; together they would be 5 each.
        duePays(scored(10, 0, 60, 60), 2, 4, 4, 2);
        // 6, 4, 3 and 1 of 15: 13 for three and 1 for three.
        duePays(scored(15, 0, 60, 60, 60), 3, 4, 4, 4, 3);
        // 8, 6, 4 and 2 of 20: 10 for two, and 2 for three.
        duePays(scored(20, 0, 60, 50, 50), 3, 8, 5, 5, 2);
    }

    private static void allStaysIfNoneCounts() {
        Check.sentence("What is left of the pot stays with the office, all of it, if no ride counts");
        duePays(scored(1000, 0, BUCKED), 0, 0, 1000);
        duePays(scored(99999, 999, BUCKED, BUCKED, BUCKED, BUCKED), 0, 0, 0, 0, 0, 103995);
        duePays(scored(0, 0, BUCKED, BUCKED), 0, 0, 0, 0);
        duePays(scored(0, 1, BUCKED), 0, 0, 1);
        duePays(scored(50, 1, LOST, BUCKED), 0, 0, 0, 52);
    }

    private static void theGreatestPot() {
        Check.sentence("money is added, 0 to 99999 dollars, and an entry has a fee, 0 to 999 dollars");
        Office x = World.of(16, 12);
        int r = x.rodeo(B, 0, 0, 3, 4, 99999, 999);
        for (int k = 0; k < 12; k++) {
            x.enter(r, k, 1 << k % 3, k % 3);
        }
        x.close(r);
        x.draw(r);
        for (int k = 0; k < 12; k++) {
            World.ride(x, r, k, 70 - k);
        }
        // 44794.8, 33596.1, 22397.4 and 11198.7 of 111987.
        duePays(x, 12, 44794, 33596, 22397, 11198, 0, 0, 0, 0, 0, 0, 0, 0, 2);
        duePays(scored(99999, 999, 60), 1, 100996, 2);
        // 39999, 29999, 19999 and 9999: 69998 for two and 29998 for two.
        duePays(scored(99999, 0, 60, 60), 2, 49998, 49998, 3);
    }

    private static void theLeastPots() {
        Check.sentence("rounded down .. What is left of the pot stays with the office");
        duePays(scored(0, 0, 60, 50), 2, 0, 0, 0);
        duePays(scored(1, 0, 60), 1, 0, 1);
        duePays(scored(2, 0, 60), 1, 0, 2);
        duePays(scored(3, 0, 60), 1, 1, 2);
        duePays(scored(4, 0, 60), 1, 2, 2);
        duePays(scored(5, 0, 60), 1, 4, 1);
        duePays(scored(10, 0, 60), 1, 10, 0);
        duePays(scored(0, 1, 60), 1, 0, 1);
    }

    /** All pots to 60, for 0 to 5 rides that count, with all scores apart. */
    private static void eachPotAndCount() {
        Check.sentence("The places 1 to 4 get 40, 30, 20 and 10 hundredths .. rounded down, besides");
        for (int pot = 0; pot <= 60; pot++) {
            for (int count = 0; count <= 5; count++) {
                int[] scores = new int[5];
                int[] dues = new int[6];
                int ground = 0;
                for (int place = count; place < 4; place++) {
                    ground += pot * (4 - place) / 10;
                }
                dues[5] = pot;
                for (int k = 0; k < 5; k++) {
                    scores[k] = k < count ? 70 - k : BUCKED;
                    int share = k < 4 ? pot * (4 - k) / 10 : 0;
                    dues[k] = k < count ? share + ground / count : 0;
                    dues[5] -= dues[k];
                }
                duePays(scored(pot, 0, scores), count, dues);
            }
        }
    }

    private static void gotRefused() {
        Check.sentence("19: IndexOutOfBoundsException as told, of the rodeo and rider");
        Office x = World.of(1, 2);
        int r = World.win(x, 0, 0, 100);
        Check.refusedEach(x, "rodeo", Check.INDEX, World.outside(0, 0), n -> x.got(n, 0));
        Check.refusedEach(x, "rider", Check.INDEX, World.outside(0, 1), n -> x.got(r, n));
        Check.refused(x, "rider 12", Check.INDEX, () -> x.got(r, 12));
        Check.due("the last rider did not enter", 0, () -> x.got(r, 1));
    }

    private static void got0AheadOfBeingPaid() {
        Check.sentence("19: 0 ahead of its being paid");
        Office x = World.of(1, 3);
        int r = x.rodeo(B, 0, 0, 1, 2, 100, 0);
        Check.due("OPEN, did not enter", 0, () -> x.got(r, 0));
        for (int k = 0; k < 3; k++) {
            x.enter(r, k, 1, 0);
        }
        Check.due("OPEN", 0, () -> x.got(r, 0));
        x.close(r);
        Check.due("CLOSED", 0, () -> x.got(r, 0));
        x.draw(r);
        Check.due("DRAWN", 0, () -> x.got(r, 0));
        World.ride(x, r, 0, 60);
        Check.due("ridden", 0, () -> x.got(r, 0));
        Check.due("counts 0 too", 0, () -> x.counts(0));
        x.pay(r);
        Check.due("PAID", 100, () -> x.got(r, 0));
        Check.due("PAID, turned out", 0, () -> x.got(r, 1));
        Check.due("PAID, out", 0, () -> x.got(r, 2));
    }

    private static void gotFromThatRodeo() {
        Check.sentence("19: Returns what a rider got from a rodeo");
        Office x = World.of(1, 2);
        int r = World.win(x, 0, 0, 100);
        int s = World.win(x, 5, 0, 70);
        int t = World.win(x, 10, 1, 30);
        Check.due("the first", 100, () -> x.got(r, 0));
        Check.due("the second", 70, () -> x.got(s, 0));
        Check.due("did not enter the third", 0, () -> x.got(t, 0));
        Check.due("the other rider", 30, () -> x.got(t, 1));
        Check.due("the other rider, the first", 0, () -> x.got(r, 1));
    }

    private static void countsRefused() {
        Check.sentence("20: IndexOutOfBoundsException as told");
        Office x = new Office();
        for (int riders = 0; riders <= 12; riders++) {
            Check.refusedEach(x, "with " + riders + ", rider", Check.INDEX, World.outside(0, riders - 1),
                n -> x.counts(n));
            if (riders < 12) {
                x.rider();
            }
        }
        Check.due("the last one", 0, () -> x.counts(11));
    }

    private static void countsFewerThanThree() {
        Check.sentence("What a rider counts is the three greatest pays, together, of all rodeos");
        Office x = World.of(1, 2);
        Check.due("no rodeo", 0, () -> x.counts(0));
        World.win(x, 0, 0, 10);
        Check.due("one", 10, () -> x.counts(0));
        World.win(x, 5, 0, 20);
        Check.due("two", 30, () -> x.counts(0));
        World.win(x, 10, 0, 30);
        Check.due("three", 60, () -> x.counts(0));
        Check.due("another one", 0, () -> x.counts(1));
    }

    private static void dueCounts(int[] pays, int... dues) {
        Office x = World.of(1, 1);
        for (int i = 0; i < pays.length; i++) {
            World.win(x, 5 * i, 0, pays[i]);
            Check.due("behind " + (i + 1) + " pays", dues[i], () -> x.counts(0));
        }
    }

    private static void countsTheThreeGreatest() {
        Check.sentence("What a rider counts is the three greatest pays, together, of all rodeos");
        dueCounts(new int[] {10, 20, 30, 40, 50, 60, 70, 80}, 10, 30, 60, 90, 120, 150, 180, 210);
        dueCounts(new int[] {80, 70, 60, 50, 40, 30, 20, 10}, 80, 150, 210, 210, 210, 210, 210, 210);
        dueCounts(new int[] {50, 50, 50, 50, 60, 50, 60, 60}, 50, 100, 150, 150, 160, 160, 170, 180);
        dueCounts(new int[] {0, 0, 0, 10, 0, 10, 10, 10}, 0, 0, 0, 10, 10, 20, 30, 30);
        dueCounts(new int[] {30, 10, 20, 30, 40, 20, 10, 0}, 30, 40, 60, 80, 100, 100, 100, 100);
        dueCounts(new int[] {90, 10, 50, 60, 110, 0, 70, 100}, 90, 100, 150, 200, 260, 260, 270, 300);
    }

    private static void rankedRefused() {
        Check.sentence("21: rank: 0 to 11; IllegalArgumentException as told");
        Office none = new Office();
        Check.refusedEach(none, "nobody, rank", Check.ARGUMENT, World.outside(0, 11), n -> none.ranked(n));
        Office x = World.of(0, 12);
        Check.refusedEach(x, "twelve, rank", Check.ARGUMENT, World.outside(0, 11), n -> x.ranked(n));
        Check.due("the least", 0, () -> x.ranked(0));
        Check.due("the greatest", 11, () -> x.ranked(11));
    }

    private static void rankedOfNobody() {
        Check.sentence("21: Returns NONE if there are not so many");
        Office x = World.of(16, 0);
        World.rodeo(x, 0, 1, 1);
        dueRanks(x);
    }

    private static void dueRanks(Office x, int... riders) {
        for (int i = 0; i < 12; i++) {
            int rank = i;
            int due = i < riders.length ? riders[i] : NONE;
            Check.due("rank " + rank + " of " + riders.length, due, () -> x.ranked(rank));
        }
    }

    private static void rankedNoneIfNotSoMany() {
        Check.sentence("21: Returns NONE if there are not so many");
        Office x = new Office();
        for (int riders = 1; riders <= 12; riders++) {
            x.rider();
            int[] all = new int[riders];
            for (int k = 0; k < riders; k++) {
                all[k] = k;
            }
            dueRanks(x, all);
        }
    }

    private static void rankedByWhatTheyCount() {
        Check.sentence("Riders are ranked by what they count, the most first");
        Office x = World.of(1, 4);
        World.win(x, 0, 2, 10);
        dueRanks(x, 2, 0, 1, 3);
        World.win(x, 5, 3, 20);
        dueRanks(x, 3, 2, 0, 1);
        World.win(x, 10, 0, 10);
        dueRanks(x, 3, 0, 2, 1);
        World.win(x, 15, 2, 10);
        dueRanks(x, 2, 3, 0, 1);
        World.win(x, 20, 1, 10);
        World.win(x, 25, 1, 10);
        World.win(x, 30, 1, 10);
        dueRanks(x, 1, 2, 3, 0);
        // 30 by two pays is like 30 by three.
        World.win(x, 35, 3, 10);
        dueRanks(x, 1, 3, 2, 0);
    }

    private static void rankedByAllPays() {
        Check.sentence("of like ones by all pays");
        Office x = World.of(1, 3);
        for (int i = 0; i < 4; i++) {
            World.win(x, 5 * i, 2, 100);
        }
        World.win(x, 20, 0, 300);
        World.win(x, 25, 1, 300);
        dueRanks(x, 2, 0, 1);
        // All pays of 0 are more now, but so is what counts; those of 2 are more still than those of 1.
        World.win(x, 30, 0, 10);
        dueRanks(x, 0, 2, 1);
        Office y = World.of(1, 2);
        World.win(y, 0, 0, 310);
        for (int i = 1; i < 6; i++) {
            World.win(y, 5 * i, 1, 100);
        }
        Check.due("what counts is less", 300, () -> y.counts(1));
        dueRanks(y, 0, 1);
    }

    private static void rankedByTheLowerNumber() {
        Check.sentence("then the lower number");
        Office x = World.of(1, 12);
        dueRanks(x, 0, 1, 2, 3, 4, 5, 6, 7, 8, 9, 10, 11);
        World.win(x, 0, 11, 10);
        dueRanks(x, 11, 0, 1, 2, 3, 4, 5, 6, 7, 8, 9, 10);
        World.win(x, 5, 5, 10);
        dueRanks(x, 5, 11, 0, 1, 2, 3, 4, 6, 7, 8, 9, 10);
        World.win(x, 10, 0, 10);
        dueRanks(x, 0, 5, 11, 1, 2, 3, 4, 6, 7, 8, 9, 10);
        // Like what counts, and like all pays, of another number of pays.
        Office y = World.of(1, 2);
        World.win(y, 0, 1, 30);
        World.win(y, 5, 0, 10);
        World.win(y, 10, 0, 20);
        dueRanks(y, 0, 1);
        Office z = World.of(1, 2);
        World.win(z, 0, 0, 30);
        World.win(z, 5, 1, 10);
        World.win(z, 10, 1, 20);
        dueRanks(z, 0, 1);
    }

    private static void rankedByNow() {
        Check.sentence("19: 0 ahead of its being paid; Riders are ranked by what they count");
        Office x = World.of(1, 2);
        int r = x.rodeo(B, 0, 0, 1, 1, 100, 0);
        x.enter(r, 1, 1, 0);
        x.close(r);
        x.draw(r);
        World.ride(x, r, 1, 60);
        dueRanks(x, 0, 1);
        x.pay(r);
        dueRanks(x, 1, 0);
        x.rider();
        dueRanks(x, 1, 0, 2);
    }

    private static void balances() {
        Check.sentence("22: all pays and what stays with the office are the pot, of each PAID rodeo");
        Office x = World.of(2, 4);
        Check.due("no rodeo", true, () -> x.balances());
        for (int i = 0; i < 8; i++) {
            int r = x.rodeo(B, 0, i, 1, 4, 97 * i + 11, 3 * i);
            Check.due("OPEN", true, () -> x.balances());
            for (int k = 0; k < 4; k++) {
                x.enter(r, k, 1, 0);
            }
            x.close(r);
            Check.due("CLOSED", true, () -> x.balances());
            x.draw(r);
            Check.due("DRAWN", true, () -> x.balances());
            for (int k = 0; k < 4; k++) {
                if (x.drawn(r, k) != NONE) {
                    World.ride(x, r, k, 50 + k * (i % 2));
                    Check.due("ridden", true, () -> x.balances());
                }
            }
            x.pay(r);
            Check.due("PAID", true, () -> x.balances());
            int sum = x.rodeoIs(r, 4);
            for (int k = 0; k < 4; k++) {
                sum += x.got(r, k);
            }
            Check.same("the sum", x.rodeoIs(r, 3), sum);
        }
    }
}
