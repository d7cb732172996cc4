/** Promises 10 to 12: each sentence of the document that names an edge. */
public final class EdgesOfDrawsTest {
    private static final int B = RankStock.BULL, H = RankStock.HORSE, NONE = RankStock.NONE;

    public static void main(String[] args) {
        numberIs1AtFirst();
        hideLeastAndGreatest();
        hideOneBeyond();
        hideIsToldAnew();
        hideAheadOfAReRide();
        numberWrapsAround();
        eachDrawMakesIt();
        drawRefused();
        drawWithoutEntries();
        drawByPerformances();
        drawByTheOrderOfEntries();
        placeAmongThoseThatCanBeDrawn();
        byRisingNumbers();
        oneBeastIsADraw();
        noBeastsNoDraw();
        turnedOutStaysPlaced();
        asManyBeastsAsRiders();
        ofItsKind();
        notOnThatDay();
        notOnTheDayAheadOrBehind();
        daysAtTheEnds();
        everAndOfAnyRodeo();
        drawnButNotRidden();
        reRidesToo();
        daysWithinOneRodeo();
        drawnRefused();
        drawnOrNone();
        theOneDrawnLast();
        Check.end("EdgesOfDrawsTest");
    }

    private static int next(int number) {
        return (75 * number + 74) % 65537;
    }

    /** The beast that the rider 0 gets alone on that day. */
    private static int beastOn(Office x, int day) {
        int r = World.closedFor(x, 0, day, 0);
        x.draw(r);
        return x.drawn(r, 0);
    }

    private static void numberIs1AtFirst() {
        Check.sentence("The hidden number is 1 at first .. 75 times it and 74, together, modulo 65537");
        for (int beasts = 1; beasts <= 16; beasts++) {
            Office x = World.of(beasts, 1);
            Check.due("149 of " + beasts, 149 % beasts, () -> beastOn(x, 0));
            Check.due("75 times 149 and 74 of " + beasts, 11249 % beasts, () -> beastOn(x, 5));
            Check.due("57305 of " + beasts, 57305 % beasts, () -> beastOn(x, 10));
        }
    }

    private static void hideLeastAndGreatest() {
        Check.sentence("and can be told anew, 0 to 65536; 10: number: 0 to 65536");
        for (int beasts = 1; beasts <= 16; beasts++) {
            for (int number : new int[] {0, 1, 65535, 65536}) {
                Office x = World.of(beasts, 1);
                x.hide(number);
                int one = next(number);
                Check.due(number + " of " + beasts, one % beasts, () -> beastOn(x, 0));
                Check.due(number + " of " + beasts + ", then", next(one) % beasts, () -> beastOn(x, 5));
            }
        }
    }

    private static void hideOneBeyond() {
        Check.sentence("10: Throws IllegalArgumentException as told");
        Office x = World.of(16, 1);
        for (int bad : World.outside(0, 65536)) {
            Check.refused(x, "number " + bad, Check.ARGUMENT, () -> {
                x.hide(bad);
                return "hidden";
            });
        }
        Check.due("the number is 1 still", 149 % 16, () -> beastOn(x, 0));
        for (int bad : World.outside(0, 65536)) {
            Check.refused(x, "number " + bad, Check.ARGUMENT, () -> {
                x.hide(bad);
                return "hidden";
            });
        }
        Check.due("the number is 149 still", 11249 % 16, () -> beastOn(x, 5));
    }

    private static void hideIsToldAnew() {
        Check.sentence("and can be told anew");
        Office x = World.of(16, 1);
        x.hide(100);
        x.hide(200);
        Check.due("the one told last", next(200) % 16, () -> beastOn(x, 0));
        Check.due("goes on", next(next(200)) % 16, () -> beastOn(x, 5));
        x.hide(200);
        Check.due("begins anew", next(200) % 16, () -> beastOn(x, 10));
        x.hide(1);
        Check.due("as at first", 149 % 16, () -> beastOn(x, 15));
    }

    private static void hideAheadOfAReRide() {
        Check.sentence("and can be told anew");
        Office x = World.of(16, 1);
        int r = World.drawnRodeo(x, 0, 1, 0, 0);
        World.weakRide(x, r, 0);
        x.hide(31);
        // 2399 modulo 15 is 14: of 0 to 15 without 5, the last one.
        Check.due("the beast of the first ride", 5, () -> x.drawn(r, 0));
        Check.due("the re-ride", 15, () -> x.answer(r, 0, true));
        int s = World.drawnRodeo(x, 5, 1, 0, 0);
        Check.due("goes on", next(2399) % 16, () -> x.drawn(s, 0));
    }

    private static void numberWrapsAround() {
        Check.sentence("75 times it and 74, together, modulo 65537");
        // 65474, 65549 and 65624 ahead of the modulo; then those that make the least and the greatest.
        int[] numbers = {872, 873, 874, 45438, 25340, 20097, 65536};
        int[] made = {65474, 12, 87, 0, 1, 65535, 65536};
        for (int i = 0; i < numbers.length; i++) {
            for (int beasts = 2; beasts <= 16; beasts++) {
                Office x = World.of(beasts, 1);
                x.hide(numbers[i]);
                int due = made[i];
                Check.due(numbers[i] + " of " + beasts, due % beasts, () -> beastOn(x, 0));
                Check.due(numbers[i] + " of " + beasts + ", then", next(due) % beasts, () -> beastOn(x, 5));
            }
        }
    }

    private static void eachDrawMakesIt() {
        Check.sentence("A draw makes it ..");
        for (int beasts = 4; beasts <= 16; beasts++) {
            Office x = World.of(beasts, 12);
            int number = 1;
            for (int rodeo = 0; rodeo < 8; rodeo++) {
                int r = World.rodeo(x, 5 * rodeo, 1, 4);
                for (int k = 0; k < 4; k++) {
                    x.enter(r, k, 1, 0);
                }
                x.close(r);
                Check.due("all have a beast", 4, () -> x.draw(r));
                boolean[] isTaken = new boolean[beasts];
                for (int k = 0; k < 4; k++) {
                    number = next(number);
                    int due = takeAt(isTaken, number % (beasts - k));
                    int rider = k;
                    Check.due("of " + beasts + ", rodeo " + r + ", rider " + k, due, () -> x.drawn(r, rider));
                }
            }
        }
    }

    /** Takes the one whose place is that among those that are left. */
    private static int takeAt(boolean[] isTaken, int place) {
        int left = place;
        for (int i = 0; i < isTaken.length; i++) {
            if (!isTaken[i]) {
                if (left == 0) {
                    isTaken[i] = true;
                    return i;
                }
                left--;
            }
        }
        throw new AssertionError("there is no such place");
    }

    private static void drawRefused() {
        Check.sentence("11: IndexOutOfBoundsException as told; if it is not CLOSED");
        Office x = World.of(1, 1);
        int r = World.rodeo(x, 0, 1, 1);
        Check.refusedEach(x, "rodeo", Check.INDEX, World.outside(0, 0), n -> x.draw(n));
        x.enter(r, 0, 1, 0);
        Check.refused(x, "OPEN", Check.STATE, () -> x.draw(r));
        x.close(r);
        Check.due("CLOSED", 1, () -> x.draw(r));
        Check.refused(x, "DRAWN", Check.STATE, () -> x.draw(r));
        World.ride(x, r, 0, 60);
        Check.refused(x, "ridden", Check.STATE, () -> x.draw(r));
        x.pay(r);
        Check.refused(x, "PAID", Check.STATE, () -> x.draw(r));
    }

    private static void drawWithoutEntries() {
        Check.sentence("11: Returns how many have a beast");
        Office x = World.of(16, 1);
        int r = World.rodeo(x, 0, 4, 4);
        x.close(r);
        Check.due("nobody", 0, () -> x.draw(r));
        Check.due("is", RankStock.DRAWN, () -> x.rodeoIs(r, 0));
        Check.due("no draw was made", 149 % 16, () -> beastOn(x, 0));
        Office y = World.of(16, 1);
        World.closedFor(y, 0, 10, 0);
        int s = World.rodeo(y, 10, 1, 1);
        y.enter(s, 0, 1, 0);
        y.close(s);
        Check.due("one who is out", 0, () -> y.draw(s));
        Check.due("no draw for one who is out", 149 % 16, () -> beastOn(y, 0));
    }

    private static void drawByPerformances() {
        Check.sentence("As a CLOSED rodeo is drawn, by performances, in each by the order of entries");
        Office x = World.of(16, 8);
        int r = World.rodeo(x, 0, 4, 2);
        int[] performances = {3, 2, 1, 0, 3, 2, 1, 0};
        for (int k = 0; k < 8; k++) {
            x.enter(r, k, 1 << performances[k], performances[k]);
        }
        x.close(r);
        Check.due("all", 8, () -> x.draw(r));
        // Riders 3, 7 on the day 0; 2, 6 on the day 1; 1, 5 on the day 2; 0, 4 on the day 3.
        int[] order = {3, 7, 2, 6, 1, 5, 0, 4};
        int[] due = new int[8];
        int number = 1;
        for (int i = 0; i < 8; i++) {
            boolean[] rests = new boolean[16];
            for (int j = 0; j < i; j++) {
                rests[due[j]] |= i / 2 - j / 2 < 2;
            }
            int resting = 0;
            for (boolean b : rests) {
                resting += b ? 1 : 0;
            }
            number = next(number);
            due[i] = takeAt(rests, number % (16 - resting));
        }
        for (int i = 0; i < 8; i++) {
            int at = i;
            Check.due("rider " + order[i], due[i], () -> x.drawn(r, order[at]));
        }
    }

    private static void drawByTheOrderOfEntries() {
        Check.sentence("in each by the order of entries");
        int[][] orders = {{0, 1, 2}, {2, 1, 0}, {1, 2, 0}, {2, 0, 1}};
        for (int[] order : orders) {
            Office x = World.of(16, 3);
            int r = World.rodeo(x, 0, 1, 3);
            for (int k : order) {
                x.enter(r, k, 1, 0);
            }
            x.close(r);
            x.draw(r);
            // 149 modulo 16; 11249 modulo 15; 57305 modulo 14, without 5 and without 15.
            Check.due("the first entry", 5, () -> x.drawn(r, order[0]));
            Check.due("the second entry", 15, () -> x.drawn(r, order[1]));
            Check.due("the third entry", 3, () -> x.drawn(r, order[2]));
        }
    }

    private static void placeAmongThoseThatCanBeDrawn() {
        Check.sentence("whose place among them, from 0, is the number, as it is then, modulo how many they are");
        Office x = new Office();
        for (int i = 0; i < 12; i++) {
            x.beast(i % 3 == 0 ? H : B);
        }
        for (int i = 0; i < 4; i++) {
            x.rider();
        }
        int r = x.rodeo(H, 0, 0, 1, 4, 0, 0);
        for (int k = 0; k < 4; k++) {
            x.enter(r, k, 1, 0);
        }
        x.close(r);
        Check.due("four horses", 4, () -> x.draw(r));
        // Of 0, 3, 6, 9: 149 modulo 4; of 0, 6, 9: 11249 modulo 3; of 0, 6: 57305 modulo 2; then 0.
        Check.due("the place 1 of 4", 3, () -> x.drawn(r, 0));
        Check.due("the place 2 of 3", 9, () -> x.drawn(r, 1));
        Check.due("the place 1 of 2", 6, () -> x.drawn(r, 2));
        Check.due("the place 0 of 1", 0, () -> x.drawn(r, 3));
    }

    private static void byRisingNumbers() {
        Check.sentence("of the beasts that can be drawn, by rising numbers");
        for (int place = 0; place < 16; place++) {
            int due = place;
            int number = 0;
            while (next(number) % 16 != place) {
                number++;
            }
            Office x = World.of(16, 1);
            x.hide(number);
            Check.due("the place " + place, due, () -> beastOn(x, 0));
        }
    }

    private static void oneBeastIsADraw() {
        Check.sentence("a draw is made, and, of the beasts that can be drawn");
        Office x = new Office();
        x.beast(H);
        for (int i = 0; i < 15; i++) {
            x.beast(B);
        }
        x.rider();
        int r = x.rodeo(H, 0, 0, 1, 1, 0, 0);
        x.enter(r, 0, 1, 0);
        x.close(r);
        x.draw(r);
        Check.due("the only horse", 0, () -> x.drawn(r, 0));
        Check.due("a draw was made for it", 1 + 11249 % 15, () -> beastOn(x, 5));
    }

    private static void noBeastsNoDraw() {
        Check.sentence("Without such beasts no draw is made, and the rider is turned out");
        Office x = World.of(15, 1);
        int r = x.rodeo(H, 0, 0, 1, 1, 0, 0);
        x.enter(r, 0, 1, 0);
        x.close(r);
        Check.due("no horse at all", 0, () -> x.draw(r));
        Check.due("no draw was made", 149 % 15, () -> beastOn(x, 5));
        // A re-ride for which there is no beast makes no draw either.
        Office y = new Office();
        y.beast(H);
        for (int i = 0; i < 15; i++) {
            y.beast(B);
        }
        y.rider();
        int s = y.rodeo(H, 0, 0, 1, 1, 0, 0);
        y.enter(s, 0, 1, 0);
        y.close(s);
        y.draw(s);
        World.weakRide(y, s, 0);
        Check.due("no other horse", NONE, () -> y.answer(s, 0, true));
        Check.due("one draw was made, not two", 1 + 11249 % 15, () -> beastOn(y, 5));
    }

    private static void turnedOutStaysPlaced() {
        Check.sentence("the rider is turned out, but stays placed");
        Office x = World.of(1, 2);
        int r = x.rodeo(B, 0, 0, 2, 2, 0, 7);
        x.enter(r, 0, 2, 1);
        x.enter(r, 1, 2, 1);
        x.close(r);
        Check.due("one has a beast", 1, () -> x.draw(r));
        Check.due("has none", NONE, () -> x.drawn(r, 1));
        Check.due("stays placed", 1, () -> x.placed(r, 1));
        Check.due("is one of the placed", 2, () -> x.rodeoIs(r, 2));
        Check.due("with the fee", 14, () -> x.rodeoIs(r, 3));
        Check.refused(x, "does not ride", Check.STATE, () -> x.ride(r, 1, 0, 0, false));
        World.ride(x, r, 0, 60);
        Check.due("does not hold up the pay", 1, () -> x.pay(r));
        Check.due("stays placed, PAID", 1, () -> x.placed(r, 1));
    }

    private static void asManyBeastsAsRiders() {
        Check.sentence("Without such beasts .. 11: Returns how many have a beast");
        for (int beasts = 0; beasts <= 5; beasts++) {
            Office x = World.of(beasts, 4);
            int r = World.rodeo(x, 0, 1, 4);
            for (int k = 0; k < 4; k++) {
                x.enter(r, k, 1, 0);
            }
            x.close(r);
            int due = Math.min(beasts, 4);
            Check.due(beasts + " beasts for 4", due, () -> x.draw(r));
            for (int k = 0; k < 4; k++) {
                int rider = k;
                Check.due("rider " + k + " has one", k < due, () -> x.drawn(r, rider) != NONE);
            }
        }
        Office all = World.of(16, 12);
        int r = World.rodeo(all, 0, 3, 4);
        for (int k = 0; k < 12; k++) {
            all.enter(r, k, 1 << k % 3, k % 3);
        }
        all.close(r);
        Check.due("16 beasts for 12", 12, () -> all.draw(r));
    }

    private static void ofItsKind() {
        Check.sentence("A beast can be drawn for a performance of a rodeo, if it is of its kind");
        for (int kind = B; kind <= H; kind++) {
            Office x = new Office();
            x.beast(1 - kind);
            x.beast(kind);
            x.beast(1 - kind);
            x.rider();
            x.rider();
            int r = x.rodeo(kind, 0, 0, 1, 2, 0, 0);
            x.enter(r, 0, 1, 0);
            x.enter(r, 1, 1, 0);
            x.close(r);
            Check.due("one of kind " + kind, 1, () -> x.draw(r));
            Check.due("that one", 1, () -> x.drawn(r, 0));
            Check.due("no other", NONE, () -> x.drawn(r, 1));
        }
    }

    /** Whether one beast, drawn on the one day, can be drawn on the other one. */
    private static int drawnOnBoth(int day, int other) {
        Office x = World.of(1, 2);
        int r = dayRodeo(x, day, 0);
        Check.due("the first one", 1, () -> x.draw(r));
        int s = dayRodeo(x, other, 1);
        return x.draw(s);
    }

    /** Closed, for that rider on that day, 0 to 63. */
    private static int dayRodeo(Office x, int day, int rider) {
        int first = Math.min(day, 60);
        int r = World.rodeo(x, first, 4, 1);
        x.enter(r, rider, 1 << day - first, day - first);
        x.close(r);
        return r;
    }

    private static void notOnThatDay() {
        Check.sentence("it was not drawn, ever, for any performance on that day");
        for (int d = 0; d <= 63; d++) {
            int day = d;
            Check.due("the day " + day, 0, () -> drawnOnBoth(day, day));
        }
    }

    private static void notOnTheDayAheadOrBehind() {
        Check.sentence("the day ahead or the day behind");
        for (int d = 0; d <= 61; d++) {
            int day = d;
            Check.due("the day ahead of " + (day + 1), 0, () -> drawnOnBoth(day, day + 1));
            Check.due("the day behind " + day, 0, () -> drawnOnBoth(day + 1, day));
            Check.due("two days ahead of " + (day + 2), 1, () -> drawnOnBoth(day, day + 2));
            Check.due("two days behind " + day, 1, () -> drawnOnBoth(day + 2, day));
        }
        Check.due("the last two days", 0, () -> drawnOnBoth(62, 63));
        Check.due("the last two days, the other way", 0, () -> drawnOnBoth(63, 62));
    }

    private static void daysAtTheEnds() {
        Check.sentence("first: 0 to 60 .. 1 to 4 performances .. days one behind the other");
        Check.due("the first and the last day", 1, () -> drawnOnBoth(0, 63));
        Check.due("the last and the first day", 1, () -> drawnOnBoth(63, 0));
        Check.due("the days 31 and 63", 1, () -> drawnOnBoth(31, 63));
        Check.due("the days 32 and 0", 1, () -> drawnOnBoth(32, 0));
        Check.due("the days 0 and 32", 1, () -> drawnOnBoth(0, 32));
        Check.due("the days 31 and 32", 0, () -> drawnOnBoth(31, 32));
        Check.due("the days 1 and 33", 1, () -> drawnOnBoth(1, 33));
        Check.due("the days 62 and 30", 1, () -> drawnOnBoth(62, 30));
    }

    private static void everAndOfAnyRodeo() {
        Check.sentence("ever, for any performance .. (of any rodeo ..)");
        Office x = World.of(1, 8);
        for (int i = 0; i < 6; i++) {
            int r = dayRodeo(x, 10 * i, i);
            x.draw(r);
            World.ride(x, r, i, 60);
            x.pay(r);
        }
        int day = dayRodeo(x, 1, 6);
        Check.due("a day behind the first of six, which are PAID", 0, () -> x.draw(day));
        int free = dayRodeo(x, 25, 7);
        Check.due("between all of them", 1, () -> x.draw(free));
        Office far = World.of(1, 2);
        int r = World.closedFor(far, 0, 10, 0);
        far.draw(r);
        int s = World.closedFor(far, 2000, 11, 1);
        Check.due("miles don't matter", 0, () -> far.draw(s));
    }

    private static void drawnButNotRidden() {
        Check.sentence("it was not drawn, ever");
        Office x = World.of(2, 4);
        int r = World.closedFor(x, 0, 10, 0);
        x.draw(r);
        int taken = x.drawn(r, 0);
        int s = World.rodeo(x, 11, 1, 4);
        x.enter(s, 1, 1, 0);
        x.enter(s, 2, 1, 0);
        x.close(s);
        Check.due("drawn there, though not ridden by now", 1, () -> x.draw(s));
        Check.due("the other one", 1 - taken, () -> x.drawn(s, 1));
        int t = World.rodeo(x, 9, 1, 4);
        x.enter(t, 3, 1, 0);
        x.close(t);
        Check.due("two days ahead of the other one", 1, () -> x.draw(t));
        Check.due("it is that one", 1 - taken, () -> x.drawn(t, 3));
    }

    private static void reRidesToo() {
        Check.sentence("(of any rodeo, re-rides too)");
        Office x = World.of(2, 6);
        int r = World.drawnRodeo(x, 10, 1, 0, 0);
        World.weakRide(x, r, 0);
        x.answer(r, 0, true);
        for (int day = 8; day <= 12; day++) {
            int s = World.closedFor(x, 0, day, day - 7);
            int due = day == 8 || day == 12 ? 1 : 0;
            Check.due("the first one and the re-ride's, the day " + day, due, () -> x.draw(s));
        }
        // A re-ride keeps away from beasts that others were given on the days around.
        Office y = World.of(3, 3);
        int one = World.drawnRodeo(y, 10, 1, 0, 0);
        int two = World.closedFor(y, 0, 11, 1);
        y.draw(two);
        int three = World.closedFor(y, 0, 9, 2);
        y.draw(three);
        World.weakRide(y, one, 0);
        // 149 modulo 3 of all; 11249 modulo 2 of 0 and 1; 57305 modulo 2 of 0 and 1.
        Check.due("on the day", 2, () -> y.drawn(one, 0));
        Check.due("on the day behind", 1, () -> y.drawn(two, 1));
        Check.due("on the day ahead, two days from that", 1, () -> y.drawn(three, 2));
        Check.due("the third one is left", 0, () -> y.answer(one, 0, true));
    }

    private static void daysWithinOneRodeo() {
        Check.sentence("for any performance on that day, the day ahead or the day behind");
        Office x = World.of(1, 4);
        int r = World.rodeo(x, 30, 4, 1);
        for (int k = 0; k < 4; k++) {
            x.enter(r, k, 1 << k, k);
        }
        x.close(r);
        Check.due("the performances 0 and 2", 2, () -> x.draw(r));
        for (int k = 0; k < 4; k++) {
            int rider = k;
            Check.due("rider " + k, k % 2 == 0 ? 0 : NONE, () -> x.drawn(r, rider));
        }
    }

    private static void drawnRefused() {
        Check.sentence("12: IndexOutOfBoundsException as told, of the rodeo and rider");
        Office x = World.of(1, 2);
        World.drawnRodeo(x, 0, 1, 0, 0);
        Check.refusedEach(x, "rodeo", Check.INDEX, World.outside(0, 0), n -> x.drawn(n, 0));
        Check.refusedEach(x, "rider", Check.INDEX, World.outside(0, 1), n -> x.drawn(0, n));
        Check.refused(x, "rider 12", Check.INDEX, () -> x.drawn(0, 12));
        Check.due("the last rider", NONE, () -> x.drawn(0, 1));
    }

    private static void drawnOrNone() {
        Check.sentence("12: Returns NONE without one, or of one who is turned out");
        Office x = World.of(1, 4);
        int r = World.rodeo(x, 0, 1, 2);
        Check.due("did not enter", NONE, () -> x.drawn(r, 0));
        for (int k = 0; k < 3; k++) {
            x.enter(r, k, 1, 0);
        }
        Check.due("OPEN", NONE, () -> x.drawn(r, 0));
        x.close(r);
        Check.due("CLOSED", NONE, () -> x.drawn(r, 0));
        x.draw(r);
        Check.due("has the beast 0", 0, () -> x.drawn(r, 0));
        Check.due("turned out", NONE, () -> x.drawn(r, 1));
        Check.due("out", NONE, () -> x.drawn(r, 2));
        Check.due("never entered", NONE, () -> x.drawn(r, 3));
        World.bucked(x, r, 0);
        Check.due("ridden", 0, () -> x.drawn(r, 0));
        x.pay(r);
        Check.due("PAID", 0, () -> x.drawn(r, 0));
        Check.due("turned out, PAID", NONE, () -> x.drawn(r, 1));
    }

    private static void theOneDrawnLast() {
        Check.sentence("12: Returns the beast that a rider has in a rodeo: the one drawn last");
        Office x = World.of(2, 1);
        int r = World.drawnRodeo(x, 0, 1, 0, 0);
        Check.due("the first one", 1, () -> x.drawn(r, 0));
        World.weakRide(x, r, 0);
        Check.due("offered", 1, () -> x.drawn(r, 0));
        x.answer(r, 0, true);
        Check.due("the one for the re-ride", 0, () -> x.drawn(r, 0));
        World.weakRide(x, r, 0);
        Check.due("ridden", 0, () -> x.drawn(r, 0));
        x.pay(r);
        Check.due("PAID", 0, () -> x.drawn(r, 0));
        int s = World.drawnRodeo(x, 5, 1, 0, 0);
        int taken = x.drawn(s, 0);
        World.weakRide(x, s, 0);
        x.answer(s, 0, false);
        Check.due("left: the first one stays", taken, () -> x.drawn(s, 0));
        Check.due("by rodeo", 0, () -> x.drawn(r, 0));
        Office lost = World.of(1, 1);
        int t = World.drawnRodeo(lost, 0, 1, 0, 0);
        World.weakRide(lost, t, 0);
        lost.answer(t, 0, true);
        Check.due("turned out of the re-ride", NONE, () -> lost.drawn(t, 0));
        lost.pay(t);
        Check.due("PAID", NONE, () -> lost.drawn(t, 0));
    }
}
