/** Promises 6 to 9: each sentence of the document that names an edge. */
public final class EdgesOfEntriesTest {
    private static final int B = RankStock.BULL, H = RankStock.HORSE, NONE = RankStock.NONE;

    public static void main(String[] args) {
        noSuchRodeoOrRider();
        indexAheadOfArgument();
        setsOfEachCount();
        wishesOfEachSet();
        setAndWishAtTheEnds();
        argumentAheadOfState();
        entersOnce();
        entersWhileOpen();
        returnsHowManyEntered();
        entersSeveralRodeos();
        closeRefused();
        closeWithoutEntries();
        inTheOrderInWhichTheyCame();
        inTheWishIfThatHasAPlace();
        theWishAheadOfALowerOne();
        theLowestOfTheSet();
        neverBesideTheSet();
        otherwiseOut();
        wishThatCannotBeReached();
        placeAndWayInOne();
        milesOfEachDistance();
        notOnTheSameDay();
        theDayOfThePerformance();
        eachOtherRodeo();
        placedByNow();
        paidOnesToo();
        turnedOutIsStillPlaced();
        outIsNotPlaced();
        otherRidersAreNotInTheWay();
        placedRefused();
        placedOrNone();
        mostRefused();
        mostOfNobody();
        mostAtAnyTime();
        mostByPlaces();
        mostBySets();
        mostByMoving();
        mostByWays();
        mostByTheOthersAsTheyAreNow();
        mostOfAll();
        Check.end("EdgesOfEntriesTest");
    }

    private static Office two() {
        Office x = World.of(0, 2);
        World.rodeo(x, 0, 3, 1);
        return x;
    }

    private static void noSuchRodeoOrRider() {
        Check.sentence("6: IndexOutOfBoundsException as told, of the rodeo and rider");
        Office x = two();
        Check.refusedEach(x, "rodeo", Check.INDEX, World.outside(0, 0), n -> x.enter(n, 0, 1, 0));
        Check.refusedEach(x, "rider", Check.INDEX, World.outside(0, 1), n -> x.enter(0, n, 1, 0));
        Check.refused(x, "rider 12", Check.INDEX, () -> x.enter(0, 12, 1, 0));
        Check.refused(x, "rodeo 8", Check.INDEX, () -> x.enter(8, 0, 1, 0));
        Check.due("the last rider", 1, () -> x.enter(0, 1, 1, 0));
        Office full = World.of(0, 12);
        for (int i = 0; i < 8; i++) {
            World.rodeo(full, 0, 1, 1);
        }
        Check.due("the last of all", 1, () -> full.enter(7, 11, 1, 0));
        Check.refused(full, "one behind, rider", Check.INDEX, () -> full.enter(7, 12, 1, 0));
        Check.refused(full, "one behind, rodeo", Check.INDEX, () -> full.enter(8, 11, 1, 0));
    }

    private static void indexAheadOfArgument() {
        Check.sentence("of several exceptions it is the first one of the throws clause");
        Office x = two();
        Check.refused(x, "rodeo and set", Check.INDEX, () -> x.enter(1, 0, 0, 0));
        Check.refused(x, "rodeo and wish", Check.INDEX, () -> x.enter(1, 0, 1, -1));
        Check.refused(x, "rider and set", Check.INDEX, () -> x.enter(0, 2, 8, 0));
        Check.refused(x, "rider and wish", Check.INDEX, () -> x.enter(0, 2, 1, 4));
        x.close(0);
        Check.refused(x, "rodeo and all", Check.INDEX, () -> x.enter(-1, -1, -1, -1));
        Check.refused(x, "rider, not OPEN", Check.INDEX, () -> x.enter(0, -1, 1, 0));
        Check.refused(x, "rider and set, not OPEN", Check.INDEX, () -> x.enter(0, -1, 16, 0));
    }

    /** A new world for each, so that what is refused is refused for the set alone. */
    private static Office withPerformances(int performances) {
        Office x = World.of(0, 1);
        World.rodeo(x, 0, performances, 1);
        return x;
    }

    private static void setsOfEachCount() {
        Check.sentence("6: set: 1 to 15: performances that there are");
        for (int performances = 1; performances <= 4; performances++) {
            for (int s = -2; s <= 34; s++) {
                int set = s;
                boolean isFine = set >= 1 && set < 1 << performances;
                Office x = withPerformances(performances);
                String what = "set " + set + " of " + performances;
                // The highest one of the set, or any one.
                int wish = set < 1 ? 0 : 31 - Integer.numberOfLeadingZeros(set);
                if (isFine) {
                    Check.due(what, 1, () -> x.enter(0, 0, set, wish));
                } else {
                    Check.refused(x, what, Check.ARGUMENT, () -> x.enter(0, 0, set, wish));
                    Check.refused(x, what, Check.ARGUMENT, () -> x.enter(0, 0, set, 0));
                }
            }
        }
    }

    private static void wishesOfEachSet() {
        Check.sentence("6: wish: one of the set; the wish is not in the set");
        for (int performances = 1; performances <= 4; performances++) {
            for (int s = 1; s < 1 << performances; s++) {
                for (int w = -2; w <= 36; w++) {
                    int set = s;
                    int wish = w;
                    boolean isFine = wish >= 0 && wish < 4 && (set >> wish) % 2 == 1;
                    Office x = withPerformances(performances);
                    String what = "set " + set + ", wish " + wish;
                    Check.due(what, isFine ? "1" : Check.ARGUMENT, () -> x.enter(0, 0, set, wish));
                    Check.due(what + ": entered", isFine ? 1 : 0, () -> x.rodeoIs(0, 1));
                    Check.due(what + ": placed", isFine ? 1 : 0, () -> x.close(0));
                    Check.due(what + ": in", isFine ? wish : NONE, () -> x.placed(0, 0));
                }
            }
        }
    }

    private static void setAndWishAtTheEnds() {
        Check.sentence("IllegalArgumentException: another argument is out of its range");
        for (int performances = 1; performances <= 4; performances++) {
            Office x = withPerformances(performances);
            int all = (1 << performances) - 1;
            Check.refusedEach(x, "set", Check.ARGUMENT, World.ENDS, set -> x.enter(0, 0, set, 0));
            Check.refusedEach(x, "wish", Check.ARGUMENT, World.ENDS, wish -> x.enter(0, 0, all, wish));
            // A set of 32 bits, and wishes whose shifts would wrap around.
            Check.refused(x, "set -1", Check.ARGUMENT, () -> x.enter(0, 0, -1, 0));
            Check.refusedEach(x, "wish", Check.ARGUMENT, new int[] {32, -32, 64, 1 << 30, -1 << 30},
                wish -> x.enter(0, 0, all, wish));
        }
    }

    private static void argumentAheadOfState() {
        Check.sentence("of several exceptions it is the first one of the throws clause");
        Office x = two();
        x.enter(0, 0, 7, 0);
        Check.refused(x, "set, entered", Check.ARGUMENT, () -> x.enter(0, 0, 8, 0));
        Check.refused(x, "wish, entered", Check.ARGUMENT, () -> x.enter(0, 0, 1, 1));
        Check.refused(x, "entered", Check.STATE, () -> x.enter(0, 0, 7, 0));
        x.close(0);
        Check.refused(x, "set, not OPEN", Check.ARGUMENT, () -> x.enter(0, 1, 0, 0));
        Check.refused(x, "wish, not OPEN", Check.ARGUMENT, () -> x.enter(0, 1, 2, 0));
        Check.refused(x, "not OPEN", Check.STATE, () -> x.enter(0, 1, 2, 1));
    }

    private static void entersOnce() {
        Check.sentence("a rider enters it once; 6: or the rider entered it");
        Office x = World.of(0, 12);
        int r = World.rodeo(x, 0, 2, 1);
        for (int k = 0; k < 12; k++) {
            x.enter(r, k, 3, 1);
        }
        for (int k = 0; k < 12; k++) {
            int rider = k;
            Check.refused(x, "rider " + k, Check.STATE, () -> x.enter(r, rider, 3, 1));
            Check.refused(x, "rider " + k + ", another wish", Check.STATE, () -> x.enter(r, rider, 1, 0));
        }
        x.close(r);
        Check.due("the wish is the first one told", 1, () -> x.placed(r, 0));
    }

    private static void entersWhileOpen() {
        Check.sentence("While a rodeo is OPEN; 6: if it is not OPEN");
        Office x = World.of(0, 2);
        int r = World.rodeo(x, 0, 1, 2);
        x.enter(r, 0, 1, 0);
        x.close(r);
        Check.refused(x, "CLOSED", Check.STATE, () -> x.enter(r, 1, 1, 0));
        Check.refused(x, "CLOSED, entered", Check.STATE, () -> x.enter(r, 0, 1, 0));
        x.draw(r);
        Check.refused(x, "DRAWN", Check.STATE, () -> x.enter(r, 1, 1, 0));
        x.pay(r);
        Check.refused(x, "PAID", Check.STATE, () -> x.enter(r, 1, 1, 0));
        Check.due("entered", 1, () -> x.rodeoIs(r, 1));
    }

    private static void returnsHowManyEntered() {
        Check.sentence("6: Returns how many entered it then");
        Office x = World.of(0, 12);
        int r = World.rodeo(x, 0, 1, 1);
        int other = World.rodeo(x, 0, 1, 1);
        for (int k = 0; k < 12; k++) {
            int rider = 5 * k % 12;
            Check.due("entry " + k, k + 1, () -> x.enter(r, rider, 1, 0));
        }
        Check.due("the other one's first", 1, () -> x.enter(other, 3, 1, 0));
    }

    private static void entersSeveralRodeos() {
        Check.sentence("While a rodeo is OPEN, a rider enters it once");
        Office x = World.of(0, 1);
        for (int i = 0; i < 8; i++) {
            int r = World.rodeo(x, 0, 1, 1);
            Check.due("rodeo " + r + " on the same day", 1, () -> x.enter(r, 0, 1, 0));
        }
        for (int i = 7; i >= 0; i--) {
            int r = i;
            Check.due("the one closed first alone", i == 7 ? 1 : 0, () -> x.close(r));
        }
    }

    private static void closeRefused() {
        Check.sentence("7: IndexOutOfBoundsException as told; if it is not OPEN");
        Office x = two();
        Check.refusedEach(x, "rodeo", Check.INDEX, World.outside(0, 0), n -> x.close(n));
        x.enter(0, 1, 6, 2);
        Check.due("placed", 1, () -> x.close(0));
        Check.refused(x, "CLOSED", Check.STATE, () -> x.close(0));
        x.draw(0);
        Check.refused(x, "DRAWN", Check.STATE, () -> x.close(0));
        x.pay(0);
        Check.refused(x, "PAID", Check.STATE, () -> x.close(0));
    }

    private static void closeWithoutEntries() {
        Check.sentence("(A rodeo can be closed without entries.)");
        Office x = World.of(1, 1);
        int r = x.rodeo(B, 0, 0, 4, 4, 700, 9);
        Check.due("placed", 0, () -> x.close(r));
        Check.due("is", RankStock.CLOSED, () -> x.rodeoIs(r, 0));
        Check.due("pot", 700, () -> x.rodeoIs(r, 3));
        Check.due("drawn", 0, () -> x.draw(r));
        Check.due("paid", 0, () -> x.pay(r));
        Check.due("office", 700, () -> x.rodeoIs(r, 4));
    }

    private static void inTheOrderInWhichTheyCame() {
        Check.sentence("its entries are gone through in the order in which they came");
        for (int first = 0; first < 4; first++) {
            Office x = World.of(0, 4);
            int r = World.rodeo(x, 0, 1, 1);
            for (int i = 0; i < 4; i++) {
                x.enter(r, (first + 3 * i) % 4, 1, 0);
            }
            Check.due("one place", 1, () -> x.close(r));
            for (int k = 0; k < 4; k++) {
                int rider = k;
                Check.due("rider " + k, k == first ? 0 : NONE, () -> x.placed(r, rider));
            }
        }
    }

    private static void inTheWishIfThatHasAPlace() {
        Check.sentence("each is placed in the wish, if that has a place left");
        for (int places = 1; places <= 4; places++) {
            for (int w = 0; w < 4; w++) {
                int wish = w;
                Office x = World.of(0, places + 1);
                int r = World.rodeo(x, 0, 4, places);
                for (int k = 0; k <= places; k++) {
                    x.enter(r, k, 15, wish);
                }
                int last = places;
                Check.due("all", places + 1, () -> x.close(r));
                for (int k = 0; k < places; k++) {
                    int rider = k;
                    Check.due("wish " + wish + " of rider " + k, wish, () -> x.placed(r, rider));
                }
                Check.due("the next goes to the lowest", wish == 0 ? 1 : 0, () -> x.placed(r, last));
            }
        }
    }

    private static void theWishAheadOfALowerOne() {
        Check.sentence("each is placed in the wish .. otherwise in the lowest performance of the set");
        Office x = World.of(0, 4);
        int r = World.rodeo(x, 0, 4, 1);
        x.enter(r, 0, 15, 3);
        x.enter(r, 1, 15, 2);
        x.enter(r, 2, 15, 1);
        x.enter(r, 3, 15, 0);
        x.close(r);
        for (int k = 0; k < 4; k++) {
            int rider = k;
            Check.due("rider " + k, 3 - k, () -> x.placed(r, rider));
        }
    }

    private static void theLowestOfTheSet() {
        Check.sentence("otherwise in the lowest performance of the set for which that is so");
        Office x = World.of(0, 5);
        int r = World.rodeo(x, 0, 4, 1);
        x.enter(r, 4, 8, 3);
        x.enter(r, 3, 14, 3);
        x.enter(r, 2, 15, 3);
        x.enter(r, 1, 12, 3);
        x.enter(r, 0, 15, 3);
        Check.due("four places", 4, () -> x.close(r));
        Check.due("the wish", 3, () -> x.placed(r, 4));
        Check.due("the lowest of 1, 2, 3", 1, () -> x.placed(r, 3));
        Check.due("the lowest of all", 0, () -> x.placed(r, 2));
        Check.due("the lowest of 2, 3", 2, () -> x.placed(r, 1));
        Check.due("none is left", NONE, () -> x.placed(r, 0));
    }

    private static void neverBesideTheSet() {
        Check.sentence("performance of the set .. otherwise the rider is out of this rodeo");
        for (int p = 0; p < 4; p++) {
            Office x = World.of(0, 2);
            int r = World.rodeo(x, 0, 4, 1);
            x.enter(r, 0, 1 << p, p);
            x.enter(r, 1, 1 << p, p);
            Check.due("one", 1, () -> x.close(r));
            Check.due("out, though three are empty", NONE, () -> x.placed(r, 1));
        }
    }

    private static void otherwiseOut() {
        Check.sentence("otherwise the rider is out of this rodeo");
        Office x = World.of(2, 2);
        int r = x.rodeo(B, 0, 0, 1, 1, 100, 10);
        x.enter(r, 0, 1, 0);
        x.enter(r, 1, 1, 0);
        x.close(r);
        Check.due("is not placed", NONE, () -> x.placed(r, 1));
        Check.due("entered all the same", 2, () -> x.rodeoIs(r, 1));
        Check.due("pays no fee", 110, () -> x.rodeoIs(r, 3));
        Check.due("gets no beast", 1, () -> x.draw(r));
        Check.due("has none", NONE, () -> x.drawn(r, 1));
        Check.refused(x, "does not ride", Check.STATE, () -> x.ride(r, 1, World.TOP, World.FULL, false));
        Check.due("has no score", NONE, () -> x.score(r, 1));
        World.ride(x, r, 0, 60);
        Check.due("nobody waits for that rider", 1, () -> x.pay(r));
        Check.due("gets nothing", 0, () -> x.got(r, 1));
    }

    private static void wishThatCannotBeReached() {
        Check.sentence("and the rider can get there; otherwise in the lowest performance .. for which that is so");
        Office x = World.of(0, 2);
        World.closedFor(x, 0, 10, 0);
        int r = World.rodeo(x, 9, 3, 1);
        x.enter(r, 0, 7, 1);
        x.enter(r, 1, 7, 1);
        Check.due("both", 2, () -> x.close(r));
        Check.due("the wish is on the same day", 0, () -> x.placed(r, 0));
        Check.due("the wish is free for the other one", 1, () -> x.placed(r, 1));
        Office y = World.of(0, 2);
        World.closedFor(y, 0, 10, 0);
        int s = World.rodeo(y, 10, 3, 1);
        y.enter(s, 0, 7, 0);
        y.enter(s, 1, 7, 0);
        Check.due("both", 2, () -> y.close(s));
        Check.due("the lowest but that day", 1, () -> y.placed(s, 0));
        Check.due("the day is free for the other one", 0, () -> y.placed(s, 1));
    }

    /** A place without a way and a way without a place don't make one. */
    private static void placeAndWayInOne() {
        Check.sentence("if that has a place left and the rider can get there");
        Office x = World.of(0, 2);
        World.closedFor(x, 0, 10, 1);
        int r = World.rodeo(x, 10, 2, 1);
        x.enter(r, 0, 2, 1);
        x.enter(r, 1, 3, 0);
        Check.due("one alone", 1, () -> x.close(r));
        Check.due("the other is out", NONE, () -> x.placed(r, 1));
        Office y = World.of(0, 2);
        World.closedFor(y, 0, 10, 1);
        int s = World.rodeo(y, 10, 3, 1);
        y.enter(s, 0, 2, 1);
        y.enter(s, 1, 7, 0);
        Check.due("both", 2, () -> y.close(s));
        Check.due("in the one that has both", 2, () -> y.placed(s, 1));
    }

    private static int reaches(int mile, int day, int otherMile, int otherDay) {
        Office x = World.of(0, 1);
        World.closedFor(x, mile, day, 0);
        int r = World.rodeoAt(x, otherMile, otherDay, 1, 1);
        x.enter(r, 0, 1, 0);
        return x.close(r);
    }

    private static void milesOfEachDistance() {
        Check.sentence("400 times how many days they are apart is at least how many miles both rodeos are apart");
        for (int days = 1; days <= 6; days++) {
            for (int miles : new int[] {0, 1, 400 * days - 1, 400 * days, 400 * days + 1, 2000}) {
                if (miles > 2000) {
                    continue;
                }
                int apart = days;
                int due = miles <= 400 * days ? 1 : 0;
                String what = days + " days, " + miles + " miles";
                Check.due(what + ", later and up", due, () -> reaches(0, 20, miles, 20 + apart));
                Check.due(what + ", later and down", due, () -> reaches(miles, 20, 0, 20 + apart));
                Check.due(what + ", earlier and up", due, () -> reaches(2000 - miles, 20, 2000, 20 - apart));
                Check.due(what + ", earlier and down", due, () -> reaches(2000, 20, 2000 - miles, 20 - apart));
            }
        }
        Check.due("the farthest in 5 days", 1, () -> reaches(0, 0, 2000, 5));
        Check.due("the farthest in 4 days", 0, () -> reaches(0, 0, 2000, 4));
        Check.due("all miles and all days", 1, () -> reaches(2000, 60, 0, 0));
    }

    private static void notOnTheSameDay() {
        Check.sentence("the days of both performances are not the same");
        Check.due("at no distance", 0, () -> reaches(700, 5, 700, 5));
        Check.due("at a mile", 0, () -> reaches(700, 5, 701, 5));
        Check.due("the first day", 0, () -> reaches(0, 0, 0, 0));
        Check.due("the last first day", 0, () -> reaches(0, 60, 0, 60));
        Check.due("a day later, at no distance", 1, () -> reaches(700, 5, 700, 6));
        Check.due("a day earlier, at no distance", 1, () -> reaches(700, 5, 700, 4));
    }

    private static void theDayOfThePerformance() {
        Check.sentence("the days of both performances");
        Office x = World.of(0, 1);
        int r = World.rodeo(x, 10, 4, 1);
        x.enter(r, 0, 8, 3);
        x.close(r);
        Check.due("placed on the day 13", 3, () -> x.placed(r, 0));
        // 800 miles away the days 12 to 14 are too near, 11 and 15 are not.
        int s = World.rodeoAt(x, 800, 12, 4, 1);
        x.enter(s, 0, 15, 0);
        Check.due("one day is far enough", 1, () -> x.close(s));
        Check.due("the day 15", 3, () -> x.placed(s, 0));
        Office y = World.of(0, 1);
        int q = World.rodeo(y, 10, 4, 1);
        y.enter(q, 0, 8, 3);
        y.close(q);
        int t = World.rodeoAt(y, 800, 11, 4, 1);
        y.enter(t, 0, 15, 3);
        Check.due("one day is far enough", 1, () -> y.close(t));
        Check.due("the day 11, as the wish is the day 14", 0, () -> y.placed(t, 0));
        int u = World.rodeo(y, 10, 1, 1);
        y.enter(u, 0, 1, 0);
        Check.due("the first day of the rodeo is not the day of the rider, but the third one is near", 0,
            () -> y.close(u));
    }

    private static void eachOtherRodeo() {
        Check.sentence("for each other rodeo in which that rider is placed by now");
        for (int wrong = 0; wrong < 3; wrong++) {
            Office x = World.of(0, 1);
            for (int i = 0; i < 3; i++) {
                World.closedFor(x, 0, i == wrong ? 31 : 10 + 5 * i, 0);
            }
            int r = World.rodeo(x, 31, 1, 1);
            x.enter(r, 0, 1, 0);
            Check.due("the rodeo " + wrong + " is on that day", 0, () -> x.close(r));
            int s = World.rodeo(x, 30, 1, 1);
            x.enter(s, 0, 1, 0);
            Check.due("none is on this day", 1, () -> x.close(s));
        }
        Office kinds = World.of(0, 1);
        World.closedFor(kinds, 0, 10, 0);
        int h = kinds.rodeo(H, 0, 10, 1, 1, 0, 0);
        kinds.enter(h, 0, 1, 0);
        Check.due("of the other kind too", 0, () -> kinds.close(h));
        Office behind = World.of(0, 1);
        int first = World.rodeo(behind, 10, 1, 1);
        behind.enter(first, 0, 1, 0);
        World.closedFor(behind, 0, 10, 0);
        Check.due("of a higher number too", 0, () -> behind.close(first));
    }

    private static void placedByNow() {
        Check.sentence("in which that rider is placed by now");
        Office x = World.of(0, 1);
        int open = World.rodeo(x, 10, 1, 1);
        x.enter(open, 0, 1, 0);
        int r = World.rodeo(x, 10, 1, 1);
        x.enter(r, 0, 1, 0);
        Check.due("entered elsewhere, which is OPEN", 1, () -> x.close(r));
        Check.due("that one is too late now", 0, () -> x.close(open));
        Check.due("the first one stays placed", 0, () -> x.placed(r, 0));
    }

    private static void paidOnesToo() {
        Check.sentence("PAID ones too");
        Office x = World.of(1, 1);
        int r = World.rodeo(x, 10, 1, 1);
        x.enter(r, 0, 1, 0);
        x.close(r);
        int closed = World.rodeo(x, 10, 1, 1);
        x.enter(closed, 0, 1, 0);
        Check.due("CLOSED", 0, () -> x.close(closed));
        x.draw(r);
        int drawn = World.rodeo(x, 10, 1, 1);
        x.enter(drawn, 0, 1, 0);
        Check.due("DRAWN", 0, () -> x.close(drawn));
        World.ride(x, r, 0, 60);
        x.pay(r);
        int paid = World.rodeo(x, 10, 1, 1);
        x.enter(paid, 0, 1, 0);
        Check.due("PAID", 0, () -> x.close(paid));
        int far = World.rodeoAt(x, 401, 11, 1, 1);
        x.enter(far, 0, 1, 0);
        Check.due("PAID, too far", 0, () -> x.close(far));
    }

    private static void turnedOutIsStillPlaced() {
        Check.sentence("(one who is turned out there is still placed)");
        Office x = World.of(0, 1);
        int r = World.closedFor(x, 0, 10, 0);
        Check.due("turned out", 0, () -> x.draw(r));
        Check.due("placed", 0, () -> x.placed(r, 0));
        int s = World.rodeo(x, 10, 1, 1);
        x.enter(s, 0, 1, 0);
        Check.due("DRAWN", 0, () -> x.close(s));
        x.pay(r);
        int t = World.rodeo(x, 10, 1, 1);
        x.enter(t, 0, 1, 0);
        Check.due("PAID", 0, () -> x.close(t));
        Office lost = World.of(1, 1);
        int q = World.drawnRodeo(lost, 10, 1, 0, 0);
        World.weakRide(lost, q, 0);
        lost.answer(q, 0, true);
        Check.due("turned out of a re-ride", 0, () -> lost.placed(q, 0));
        int u = World.rodeo(lost, 10, 1, 1);
        lost.enter(u, 0, 1, 0);
        Check.due("is placed too", 0, () -> lost.close(u));
    }

    private static void outIsNotPlaced() {
        Check.sentence("in which that rider is placed by now");
        Office x = World.of(0, 2);
        int r = World.rodeo(x, 10, 1, 1);
        x.enter(r, 0, 1, 0);
        x.enter(r, 1, 1, 0);
        x.close(r);
        int s = World.rodeo(x, 10, 1, 2);
        x.enter(s, 0, 1, 0);
        x.enter(s, 1, 1, 0);
        Check.due("the one who was out", 1, () -> x.close(s));
        Check.due("is placed here", 0, () -> x.placed(s, 1));
        Check.due("the other one is not", NONE, () -> x.placed(s, 0));
    }

    private static void otherRidersAreNotInTheWay() {
        Check.sentence("in which that rider is placed by now");
        Office x = World.of(0, 2);
        World.closedFor(x, 0, 10, 0);
        int r = World.rodeo(x, 10, 1, 1);
        x.enter(r, 1, 1, 0);
        Check.due("another rider", 1, () -> x.close(r));
    }

    private static void placedRefused() {
        Check.sentence("8: IndexOutOfBoundsException as told, of the rodeo and rider");
        Office x = two();
        Check.refusedEach(x, "rodeo", Check.INDEX, World.outside(0, 0), n -> x.placed(n, 0));
        Check.refusedEach(x, "rider", Check.INDEX, World.outside(0, 1), n -> x.placed(0, n));
        Check.refused(x, "rider 12", Check.INDEX, () -> x.placed(0, 12));
        Check.due("the last rider", NONE, () -> x.placed(0, 1));
    }

    private static void placedOrNone() {
        Check.sentence("8: Returns NONE if the rider is not, or did not enter");
        Office x = World.of(0, 3);
        int r = World.rodeo(x, 0, 4, 1);
        Check.due("did not enter", NONE, () -> x.placed(r, 0));
        x.enter(r, 0, 1, 0);
        x.enter(r, 1, 8, 3);
        Check.due("is not, as it is OPEN", NONE, () -> x.placed(r, 0));
        x.close(r);
        Check.due("the performance 0", 0, () -> x.placed(r, 0));
        Check.due("the performance 3", 3, () -> x.placed(r, 1));
        Check.due("did not enter, CLOSED", NONE, () -> x.placed(r, 2));
        Check.due("a rider who came later", 3, () -> x.rider());
        Check.due("did not enter either", NONE, () -> x.placed(r, 3));
    }

    private static void mostRefused() {
        Check.sentence("9: IndexOutOfBoundsException as told");
        Office x = two();
        Check.refusedEach(x, "rodeo", Check.INDEX, World.outside(0, 0), n -> x.most(n));
    }

    private static void mostOfNobody() {
        Check.sentence("how many of its entries could be placed at once");
        Office x = two();
        Check.due("no entries", 0, () -> x.most(0));
        x.close(0);
        Check.due("CLOSED", 0, () -> x.most(0));
        x.draw(0);
        Check.due("DRAWN", 0, () -> x.most(0));
        x.pay(0);
        Check.due("PAID", 0, () -> x.most(0));
        Office y = two();
        y.enter(0, 1, 4, 2);
        Check.due("one entry", 1, () -> y.most(0));
    }

    private static void mostAtAnyTime() {
        Check.sentence("The most of a rodeo, at any time");
        Office x = World.of(0, 3);
        int r = World.rodeo(x, 0, 3, 1);
        x.enter(r, 0, 3, 0);
        x.enter(r, 1, 5, 2);
        x.enter(r, 2, 1, 0);
        Check.due("OPEN", 3, () -> x.most(r));
        Check.due("placed as they came", 2, () -> x.close(r));
        Check.due("CLOSED", 3, () -> x.most(r));
        x.draw(r);
        Check.due("DRAWN", 3, () -> x.most(r));
        x.pay(r);
        Check.due("PAID", 3, () -> x.most(r));
        Check.due("nobody was moved", NONE, () -> x.placed(r, 2));
    }

    private static void mostByPlaces() {
        Check.sentence("with no more in a performance than it has places");
        for (int places = 1; places <= 4; places++) {
            Office x = World.of(0, 6);
            int r = World.rodeo(x, 0, 2, places);
            for (int k = 0; k < 6; k++) {
                x.enter(r, k, 2, 1);
                int due = Math.min(k + 1, places);
                Check.due(places + " places, " + (k + 1) + " entries", due, () -> x.most(r));
            }
        }
    }

    private static void mostBySets() {
        Check.sentence("each in some performance of its set");
        Office x = World.of(0, 12);
        int r = World.rodeo(x, 0, 4, 1);
        int[] sets = {1, 1, 3, 3, 12, 12, 12, 6};
        int[] due = {1, 1, 2, 2, 3, 4, 4, 4};
        for (int k = 0; k < sets.length; k++) {
            x.enter(r, k, sets[k], Integer.numberOfTrailingZeros(sets[k]));
            int rider = k;
            Check.due("with the set " + sets[k], due[k], () -> x.most(r));
            Check.due("as often as it is asked", due[rider], () -> x.most(r));
        }
    }

    /** Each new entry wants the place of the one ahead, who then has to move on. */
    private static void mostByMoving() {
        Check.sentence("how many of its entries could be placed at once");
        Office x = World.of(0, 5);
        int r = World.rodeo(x, 0, 4, 1);
        int[] sets = {12, 6, 3, 1, 15};
        for (int k = 0; k < 5; k++) {
            int lowest = Integer.numberOfTrailingZeros(sets[k]);
            x.enter(r, k, sets[k], lowest);
            int due = Math.min(k + 1, 4);
            Check.due("of " + (k + 1), due, () -> x.most(r));
        }
        Office y = World.of(0, 5);
        int s = World.rodeo(y, 0, 4, 1);
        int[] others = {15, 15, 15, 1, 1};
        int[] wishes = {0, 1, 2, 0, 0};
        for (int k = 0; k < 5; k++) {
            y.enter(s, k, others[k], wishes[k]);
        }
        Check.due("four", 4, () -> y.most(s));
        y.close(s);
        Check.due("three were placed", 3, () -> y.rodeoIs(s, 2));
        Check.due("four still", 4, () -> y.most(s));
    }

    private static void mostByWays() {
        Check.sentence("to which the rider can get (by the other rodeos as they are now)");
        Office x = World.of(0, 3);
        World.closedFor(x, 401, 10, 0);
        World.closedFor(x, 400, 10, 1);
        int r = World.rodeo(x, 9, 1, 4);
        x.enter(r, 0, 1, 0);
        Check.due("401 miles in a day", 0, () -> x.most(r));
        x.enter(r, 1, 1, 0);
        Check.due("400 miles in a day", 1, () -> x.most(r));
        int s = World.rodeo(x, 10, 2, 4);
        x.enter(s, 0, 3, 0);
        Check.due("the same day, and a day", 0, () -> x.most(s));
        x.enter(s, 1, 1, 0);
        Check.due("the same day", 0, () -> x.most(s));
        x.enter(s, 2, 1, 0);
        Check.due("placed nowhere", 1, () -> x.most(s));
    }

    private static void mostByTheOthersAsTheyAreNow() {
        Check.sentence("(by the other rodeos as they are now)");
        Office x = World.of(0, 2);
        int r = World.rodeo(x, 10, 1, 2);
        int s = World.rodeo(x, 10, 1, 1);
        for (int k = 0; k < 2; k++) {
            x.enter(r, k, 1, 0);
            x.enter(s, k, 1, 0);
        }
        Check.due("both OPEN, the one", 2, () -> x.most(r));
        Check.due("both OPEN, the other", 1, () -> x.most(s));
        x.close(s);
        Check.due("one of them is placed there", 1, () -> x.most(r));
        Check.due("the own places don't hinder", 1, () -> x.most(s));
        x.close(r);
        Check.due("the other one is placed here", 1, () -> x.most(r));
        Check.due("the one who is placed could stay", 1, () -> x.most(s));
        x.draw(r);
        x.draw(s);
        Check.due("both turned out: still placed", 1, () -> x.most(r));
        Check.due("both turned out: the other", 1, () -> x.most(s));
        int late = World.rodeo(x, 10, 1, 2);
        x.enter(late, 0, 1, 0);
        x.enter(late, 1, 1, 0);
        Check.due("both are placed elsewhere", 0, () -> x.most(late));
        Check.due("nobody", 0, () -> x.close(late));
    }

    private static void mostOfAll() {
        Check.sentence("at most 12 .. 1 to 4 performances .. 1 to 4 places");
        for (int performances = 1; performances <= 4; performances++) {
            for (int places = 1; places <= 4; places++) {
                Office x = World.of(0, 12);
                int r = World.rodeo(x, 0, performances, places);
                for (int k = 0; k < 12; k++) {
                    x.enter(r, k, (1 << performances) - 1, 0);
                }
                int due = Math.min(12, performances * places);
                Check.due(performances + " by " + places, due, () -> x.most(r));
                Check.due(performances + " by " + places + ", closed", due, () -> x.close(r));
            }
        }
    }
}
