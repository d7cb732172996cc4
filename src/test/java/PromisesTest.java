/** For each promise of the document: ordinary calls, the edges that it names, and wrong calls. */
public final class PromisesTest {
    private static final int TOP = World.TOP;
    private static final int FULL = World.FULL;

    public static void main(String[] args) {
        promise1();
        promise2();
        promise3();
        promise4();
        promise5();
        promise6();
        promise7ByPlaces();
        promise7ByWays();
        promise8();
        promise9();
        promise10();
        promise11();
        promise11Rest();
        promise12();
        promise13();
        promise13Times();
        promise14();
        promise15();
        promise15Lost();
        promise16();
        promise17();
        promise18();
        promise18When();
        promise18Money();
        promise19();
        promise20();
        promise21();
        promise22();
        Check.end("PromisesTest");
    }

    private static void refusedOfRodeo(Office x, String name, java.util.function.IntFunction<Object> call) {
        for (int r : new int[] {-1, 1, 8, Integer.MIN_VALUE, Integer.MAX_VALUE}) {
            Check.refused(x, name + " of rodeo " + r, Check.INDEX, () -> call.apply(r));
        }
    }

    private static void refusedOfRider(Office x, String name, java.util.function.IntFunction<Object> call) {
        for (int k : new int[] {-1, 2, 12, Integer.MIN_VALUE, Integer.MAX_VALUE}) {
            Check.refused(x, name + " of rider " + k, Check.INDEX, () -> call.apply(k));
        }
    }

    /** One rodeo, two riders: what all calls of a rodeo and a rider refuse. */
    private static Office oneRodeo() {
        Office x = World.of(1, 2);
        x.rodeo(RankStock.BULL, 0, 0, 2, 2, 10, 1);
        return x;
    }

    // ---- the promises

    private static void promise1() {
        Office x = new Office();
        Check.due("1: no beast", Check.INDEX, () -> x.beastIs(0, 0));
        Check.due("1: no rider", Check.INDEX, () -> x.counts(0));
        Check.due("1: no rodeo", Check.INDEX, () -> x.rodeoIs(0, 0));
        Check.due("1: nobody ranked", RankStock.NONE, () -> x.ranked(0));
        Check.due("1: balances", true, () -> x.balances());
        Office other = World.of(1, 1);
        Check.due("1: objects are apart", 0, () -> new Office().rider());
        Check.due("1: the other one has its own", 1, () -> other.rider());
    }

    private static void promise2() {
        Office x = new Office();
        for (int i = 0; i < 16; i++) {
            int kind = i % 3 == 0 ? RankStock.HORSE : RankStock.BULL;
            Check.due("2: beast " + i, i, () -> x.beast(kind));
        }
        for (int kind : new int[] {-1, 2, Integer.MIN_VALUE, Integer.MAX_VALUE}) {
            Check.refused(x, "2: kind ahead of the 17th", Check.ARGUMENT, () -> x.beast(kind));
        }
        Check.refused(x, "2: the 17th", Check.STATE, () -> x.beast(0));
        Check.due("2: kinds stay", RankStock.HORSE, () -> x.beastIs(15, 0));
        Office fresh = new Office();
        Check.refused(fresh, "2: kind", Check.ARGUMENT, () -> fresh.beast(2));
        Check.due("2: nothing was added", 0, () -> fresh.beast(1));
    }

    private static void promise3() {
        Office x = new Office();
        for (int i = 0; i < 12; i++) {
            int due = i;
            Check.due("3: rider", due, () -> x.rider());
        }
        Check.refused(x, "3: the 13th", Check.STATE, () -> x.rider());
    }

    private static void promise4() {
        int[] least = {0, 0, 0, 1, 1, 0, 0};
        int[] most = {1, 2000, 60, 4, 4, 99999, 999};
        Office x = new Office();
        for (int i = 0; i < 7; i++) {
            for (int bad : new int[] {least[i] - 1, most[i] + 1, Integer.MIN_VALUE, Integer.MAX_VALUE}) {
                int[] a = least.clone();
                a[i] = bad;
                Check.refused(x, "4: argument " + i + " is " + bad, Check.ARGUMENT, () -> rodeo(x, a));
            }
        }
        for (int i = 0; i < 7; i++) {
            int[] a = least.clone();
            a[i] = most[i];
            Check.due("4: argument " + i + " is the greatest", i, () -> rodeo(x, a));
        }
        Check.due("4: all the greatest", 7, () -> rodeo(x, most));
        Check.refused(x, "4: the 9th", Check.STATE, () -> rodeo(x, least));
        int[] badKind = {2, 0, 0, 1, 1, 0, 0};
        Check.refused(x, "4: the kind of the 9th", Check.ARGUMENT, () -> rodeo(x, badKind));
        Check.due("4: begins OPEN", RankStock.OPEN, () -> x.rodeoIs(7, 0));
    }

    private static int rodeo(Office x, int[] a) {
        return x.rodeo(a[0], a[1], a[2], a[3], a[4], a[5], a[6]);
    }

    private static void dueRodeo(Office x, String when, int r, int... answers) {
        for (int what = 0; what < answers.length; what++) {
            int asked = what;
            Check.due(when + ": rodeoIs " + what, answers[what], () -> x.rodeoIs(r, asked));
        }
    }

    private static void promise5() {
        Office x = World.of(3, 4);
        int r = x.rodeo(RankStock.BULL, 0, 0, 2, 1, 100, 7);
        dueRodeo(x, "5: new", r, RankStock.OPEN, 0, 0, 0, 0);
        x.enter(r, 0, 1, 0);
        x.enter(r, 1, 1, 0);
        x.enter(r, 2, 2, 1);
        dueRodeo(x, "5: entered", r, RankStock.OPEN, 3, 0, 0, 0);
        x.close(r);
        dueRodeo(x, "5: closed", r, RankStock.CLOSED, 3, 2, 114, 0);
        x.draw(r);
        dueRodeo(x, "5: drawn", r, RankStock.DRAWN, 3, 2, 114, 0);
        World.ride(x, r, 0, 70);
        World.bucked(x, r, 2);
        dueRodeo(x, "5: ridden", r, RankStock.DRAWN, 3, 2, 114, 0);
        x.pay(r);
        // 45 + 34 + 22 + 11 of 114: all to the one who rode.
        dueRodeo(x, "5: paid", r, RankStock.PAID, 3, 2, 114, 2);
        for (int what : new int[] {-1, 5, Integer.MIN_VALUE, Integer.MAX_VALUE}) {
            Check.refused(x, "5: what " + what, Check.ARGUMENT, () -> x.rodeoIs(r, what));
            Check.refused(x, "5: rodeo ahead of what", Check.INDEX, () -> x.rodeoIs(1, what));
        }
        refusedOfRodeo(x, "5: rodeoIs", n -> x.rodeoIs(n, 0));
    }

    private static void promise6() {
        Office x = World.of(0, 2);
        int r = x.rodeo(RankStock.BULL, 0, 0, 3, 1, 0, 0);
        refusedOfRodeo(x, "6: enter", n -> x.enter(n, 0, 1, 0));
        refusedOfRider(x, "6: enter", n -> x.enter(r, n, 1, 0));
        Check.refused(x, "6: rodeo ahead of set", Check.INDEX, () -> x.enter(1, 0, 0, 9));
        Check.refused(x, "6: rider ahead of set", Check.INDEX, () -> x.enter(r, 2, 0, 9));
        for (int set : new int[] {0, -1, 8, 9, 15, 16, 17, Integer.MIN_VALUE, Integer.MAX_VALUE}) {
            Check.refused(x, "6: set " + set, Check.ARGUMENT, () -> x.enter(r, 0, set, 0));
        }
        for (int wish : new int[] {-1, 1, 3, 4, 32, 34, -32, Integer.MIN_VALUE, Integer.MAX_VALUE}) {
            Check.refused(x, "6: wish " + wish, Check.ARGUMENT, () -> x.enter(r, 0, 5, wish));
        }
        Check.due("6: first", 1, () -> x.enter(r, 1, 7, 2));
        Check.refused(x, "6: twice", Check.STATE, () -> x.enter(r, 1, 1, 0));
        Check.refused(x, "6: twice, with a wrong set", Check.ARGUMENT, () -> x.enter(r, 1, 8, 0));
        Check.due("6: second", 2, () -> x.enter(r, 0, 4, 2));
        Check.due("6: one place for both", 1, () -> x.close(r));
        Check.due("6: the first has the wish", 2, () -> x.placed(r, 1));
        Check.due("6: a third rider", 2, () -> x.rider());
        Check.refused(x, "6: not OPEN", Check.STATE, () -> x.enter(r, 2, 1, 0));
        Check.refused(x, "6: not OPEN, a wrong wish", Check.ARGUMENT, () -> x.enter(r, 2, 1, 1));
        int four = x.rodeo(RankStock.BULL, 0, 20, 4, 1, 0, 0);
        Check.due("6: all four", 1, () -> x.enter(four, 2, 15, 3));
        Check.refused(x, "6: a fifth", Check.ARGUMENT, () -> x.enter(four, 1, 16, 4));
    }

    private static void promise7ByPlaces() {
        Office x = World.of(0, 6);
        int r = x.rodeo(RankStock.BULL, 0, 0, 3, 1, 0, 0);
        x.enter(r, 5, 7, 2);
        x.enter(r, 4, 6, 2);
        x.enter(r, 3, 7, 2);
        x.enter(r, 2, 7, 0);
        Check.due("7: three are placed", 3, () -> x.close(r));
        Check.due("7: in the wish", 2, () -> x.placed(r, 5));
        Check.due("7: in the lowest of the set", 1, () -> x.placed(r, 4));
        Check.due("7: in the lowest that is left", 0, () -> x.placed(r, 3));
        Check.due("7: out", RankStock.NONE, () -> x.placed(r, 2));
        Check.refused(x, "7: twice", Check.STATE, () -> x.close(r));
        refusedOfRodeo(x, "7: close", n -> x.close(n));
        int none = x.rodeo(RankStock.BULL, 0, 0, 1, 1, 0, 0);
        Check.due("7: without entries", 0, () -> x.close(none));
        Check.due("7: is CLOSED", RankStock.CLOSED, () -> x.rodeoIs(none, 0));
        int two = x.rodeo(RankStock.BULL, 0, 30, 1, 2, 0, 0);
        x.enter(two, 0, 1, 0);
        x.enter(two, 1, 1, 0);
        x.enter(two, 2, 1, 0);
        Check.due("7: as many as places", 2, () -> x.close(two));
        x.draw(two);
        Check.refused(x, "7: not OPEN, as it is DRAWN", Check.STATE, () -> x.close(two));
        x.pay(two);
        Check.refused(x, "7: not OPEN, as it is PAID", Check.STATE, () -> x.close(two));
    }

    private static void promise7ByWays() {
        Office x = World.of(0, 2);
        int home = x.rodeo(RankStock.BULL, 800, 10, 1, 4, 0, 0);
        x.enter(home, 0, 1, 0);
        x.close(home);
        // From the day 8 on, 800 miles away: the days 8, 9, 10, 11, of which 8 alone will do.
        int down = x.rodeo(RankStock.HORSE, 0, 8, 4, 1, 0, 0);
        x.enter(down, 0, 14, 3);
        Check.due("7: the days 9, 10, 11 are too near", 0, () -> x.close(down));
        int again = x.rodeo(RankStock.HORSE, 0, 8, 4, 1, 0, 0);
        x.enter(again, 0, 15, 3);
        Check.due("7: two days for 800 miles", 1, () -> x.close(again));
        Check.due("7: the day 8", 0, () -> x.placed(again, 0));
        int far = x.rodeo(RankStock.BULL, 1201, 12, 2, 1, 0, 0);
        x.enter(far, 0, 3, 0);
        Check.due("7: 401 miles in two days", 1, () -> x.close(far));
        Check.due("7: the wish", 0, () -> x.placed(far, 0));
        int same = x.rodeo(RankStock.BULL, 800, 10, 1, 4, 0, 0);
        x.enter(same, 0, 1, 0);
        x.enter(same, 1, 1, 0);
        Check.due("7: not twice on one day, at no distance", 1, () -> x.close(same));
        int step = x.rodeo(RankStock.BULL, 400, 11, 1, 4, 0, 0);
        x.enter(step, 1, 1, 0);
        Check.due("7: 400 miles in a day", 1, () -> x.close(step));
        int tooFar = x.rodeo(RankStock.BULL, 801, 12, 1, 4, 0, 0);
        x.enter(tooFar, 1, 1, 0);
        Check.due("7: 401 miles in a day", 0, () -> x.close(tooFar));
    }

    private static void promise8() {
        Office x = oneRodeo();
        Check.due("8: did not enter", RankStock.NONE, () -> x.placed(0, 0));
        x.enter(0, 0, 3, 1);
        Check.due("8: not closed", RankStock.NONE, () -> x.placed(0, 0));
        x.close(0);
        Check.due("8: placed", 1, () -> x.placed(0, 0));
        Check.due("8: the other did not enter", RankStock.NONE, () -> x.placed(0, 1));
        x.draw(0);
        World.bucked(x, 0, 0);
        x.pay(0);
        Check.due("8: still, as it is PAID", 1, () -> x.placed(0, 0));
        refusedOfRodeo(x, "8: placed", n -> x.placed(n, 0));
        refusedOfRider(x, "8: placed", n -> x.placed(0, n));
    }

    private static void promise9() {
        Office x = World.of(0, 6);
        int r = x.rodeo(RankStock.BULL, 0, 10, 3, 1, 0, 0);
        refusedOfRodeo(x, "9: most", n -> x.most(n));
        Check.due("9: without entries", 0, () -> x.most(r));
        x.enter(r, 0, 7, 0);
        x.enter(r, 1, 3, 1);
        x.enter(r, 2, 1, 0);
        Check.due("9: all, if they are moved", 3, () -> x.most(r));
        x.enter(r, 3, 7, 0);
        Check.due("9: no more than places", 3, () -> x.most(r));
        x.close(r);
        Check.due("9: two had their wish, one was left out", 3, () -> x.rodeoIs(r, 2));
        Check.due("9: at any time", 3, () -> x.most(r));
        int narrow = x.rodeo(RankStock.BULL, 0, 30, 4, 2, 0, 0);
        for (int k = 0; k < 4; k++) {
            x.enter(narrow, k, 2, 1);
        }
        x.enter(narrow, 4, 10, 1);
        Check.due("9: two in a performance, and one besides", 3, () -> x.most(narrow));
        mostByWays();
    }

    private static void mostByWays() {
        Office x = World.of(0, 2);
        int asked = x.rodeo(RankStock.BULL, 0, 5, 2, 2, 0, 0);
        int other = x.rodeo(RankStock.HORSE, 401, 6, 1, 1, 0, 0);
        x.enter(asked, 0, 3, 0);
        x.enter(asked, 1, 3, 0);
        x.enter(other, 0, 1, 0);
        Check.due("9: an open rodeo is in nobody's way", 2, () -> x.most(asked));
        x.close(other);
        Check.due("9: one cannot get there", 1, () -> x.most(asked));
        x.draw(other);
        x.pay(other);
        Check.due("9: nor by a PAID one, turned out there", 1, () -> x.most(asked));
        Check.due("9: just so the places", 1, () -> x.close(asked));
        Check.due("9: the own place is in nobody's way", 1, () -> x.most(asked));
        Check.due("9: the other rodeo's too", 1, () -> x.most(other));
    }

    /** Which of 16 beasts is drawn first tells the number by 16. */
    private static int firstOf16(Office x) {
        int r = x.rodeo(RankStock.BULL, 0, 0, 1, 1, 0, 0);
        x.enter(r, 0, 1, 0);
        x.close(r);
        x.draw(r);
        return x.drawn(r, 0);
    }

    private static void promise10() {
        Office first = World.of(16, 1);
        Check.due("10: 1 at first, then 149", 149 % 16, () -> firstOf16(first));
        int[] told = {0, 1, 2, 873, 874, 65535, 65536};
        for (int number : told) {
            Office x = World.of(16, 1);
            x.hide(number);
            Check.due("10: told " + number, (75 * number + 74) % 65537 % 16, () -> firstOf16(x));
        }
        Office wrong = World.of(16, 1);
        for (int number : new int[] {-1, 65537, Integer.MIN_VALUE, Integer.MAX_VALUE}) {
            Check.refused(wrong, "10: " + number, Check.ARGUMENT, () -> hidden(wrong, number));
        }
        Check.due("10: nothing has changed", 149 % 16, () -> firstOf16(wrong));
    }

    private static String hidden(Office x, int number) {
        x.hide(number);
        return "fine";
    }

    private static void promise11() {
        Office x = new Office();
        for (int i = 0; i < 9; i++) {
            x.beast(i % 2);
        }
        for (int i = 0; i < 6; i++) {
            x.rider();
        }
        int r = x.rodeo(RankStock.HORSE, 0, 4, 2, 3, 0, 0);
        Check.refused(x, "11: OPEN", Check.STATE, () -> x.draw(r));
        x.enter(r, 0, 2, 1);
        x.enter(r, 1, 1, 0);
        x.enter(r, 2, 1, 0);
        x.enter(r, 3, 2, 1);
        x.enter(r, 4, 1, 0);
        x.close(r);
        // Performance 0 in the order 1, 2, 4, then performance 1 in the order 0, 3, of the horses
        // 1, 3, 5, 7: 149 modulo 4, 11249 modulo 3, 57305 modulo 2 and 38044 modulo 1. Then none is
        // left, as they rest on the day behind.
        Check.due("11: four have a beast", 4, () -> x.draw(r));
        Check.due("11: first 1", 3, () -> x.drawn(r, 1));
        Check.due("11: then 2", 7, () -> x.drawn(r, 2));
        Check.due("11: then 4", 5, () -> x.drawn(r, 4));
        Check.due("11: then 0", 1, () -> x.drawn(r, 0));
        Check.due("11: 3 is turned out", RankStock.NONE, () -> x.drawn(r, 3));
        Check.due("11: and stays placed", 1, () -> x.placed(r, 3));
        Check.refused(x, "11: twice", Check.STATE, () -> x.draw(r));
        refusedOfRodeo(x, "11: draw", n -> x.draw(n));
        for (int k : new int[] {0, 1, 2, 4}) {
            World.bucked(x, r, k);
        }
        x.pay(r);
        Check.refused(x, "11: PAID", Check.STATE, () -> x.draw(r));
        int bulls = x.rodeo(RankStock.BULL, 0, 20, 1, 4, 0, 0);
        x.enter(bulls, 0, 1, 0);
        x.close(bulls);
        x.draw(bulls);
        // Four draws by now, none for 3: the next number is 35283, of the bulls 0, 2, 4, 6, 8.
        Check.due("11: no draw is made without beasts", 2 * (35283 % 5), () -> x.drawn(bulls, 0));
    }

    private static void promise11Rest() {
        int[] days = {10, 12, 11, 9, 13, 14, 8, 7};
        boolean[] has = {true, true, false, false, false, true, true, false};
        Office x = World.of(1, 8);
        for (int i = 0; i < days.length; i++) {
            int r = x.rodeo(RankStock.BULL, 0, days[i], 1, 1, 0, 0);
            x.enter(r, i, 1, 0);
            x.close(r);
            int due = has[i] ? 1 : 0;
            Check.due("11: rest on the day " + days[i], due, () -> x.draw(r));
        }
        Office edge = World.of(1, 3);
        int[] edges = {63, 0, 62};
        for (int i = 0; i < 3; i++) {
            int performance = i == 1 ? 0 : edges[i] - 60;
            int r = edge.rodeo(RankStock.BULL, 0, edges[i] - performance, 4, 1, 0, 0);
            edge.enter(r, i, 1 << performance, performance);
            edge.close(r);
            int due = i < 2 ? 1 : 0;
            Check.due("11: the day " + edges[i], due, () -> edge.draw(r));
        }
    }

    private static void promise12() {
        Office x = oneRodeo();
        x.enter(0, 1, 1, 0);
        Check.due("12: did not enter", RankStock.NONE, () -> x.drawn(0, 0));
        Check.due("12: entered", RankStock.NONE, () -> x.drawn(0, 1));
        x.close(0);
        Check.due("12: closed", RankStock.NONE, () -> x.drawn(0, 1));
        x.draw(0);
        Check.due("12: drawn", 0, () -> x.drawn(0, 1));
        World.bucked(x, 0, 1);
        Check.due("12: ridden", 0, () -> x.drawn(0, 1));
        x.pay(0);
        Check.due("12: paid", 0, () -> x.drawn(0, 1));
        refusedOfRodeo(x, "12: drawn", n -> x.drawn(n, 0));
        refusedOfRider(x, "12: drawn", n -> x.drawn(0, n));
    }

    private static void promise13() {
        Office x = World.of(4, 5);
        int open = x.rodeo(RankStock.BULL, 0, 0, 1, 4, 0, 0);
        x.enter(open, 0, 1, 0);
        Check.refused(x, "13: OPEN", Check.STATE, () -> x.ride(open, 0, TOP, FULL, false));
        x.close(open);
        Check.refused(x, "13: CLOSED", Check.STATE, () -> x.ride(open, 0, TOP, FULL, false));
        int r = World.drawnRodeo(x, 30, 3, 0, 0);
        for (int marks : new int[] {-1, TOP + 1, Integer.MIN_VALUE, Integer.MAX_VALUE}) {
            Check.refused(x, "13: marks " + marks, Check.ARGUMENT, () -> x.ride(r, 0, marks, FULL, false));
            Check.refused(x, "13: marks, not DRAWN", Check.ARGUMENT, () -> x.ride(open, 0, marks, FULL, false));
            Check.refused(x, "13: rider ahead of marks", Check.INDEX, () -> x.ride(r, 5, marks, FULL, false));
        }
        for (int watches : new int[] {-1, 1000000, Integer.MIN_VALUE, Integer.MAX_VALUE}) {
            Check.refused(x, "13: watches " + watches, Check.ARGUMENT, () -> x.ride(r, 0, TOP, watches, false));
        }
        Check.refused(x, "13: did not enter", Check.STATE, () -> x.ride(r, 3, TOP, FULL, false));
        Check.due("13: all marks", 100, () -> x.ride(r, 0, TOP, 999999, false));
        Check.refused(x, "13: ridden", Check.STATE, () -> x.ride(r, 0, TOP, FULL, false));
        Check.due("13: single marks", 1 + 12 + 3 + 14, () -> x.ride(r, 1, Check.marks(1, 12, 3, 14), FULL, false));
        Check.due("13: no offer", false, () -> x.isOffered(r, 1));
        Check.due("13: the beast's marks", 26, () -> x.beastIs(x.drawn(r, 1), 3));
        Check.due("13: perhaps 0", 0, () -> x.ride(r, 2, 0, FULL, false));
        Check.due("13: that counts", true, () -> x.isOffered(r, 2));
        Check.refused(x, "13: offered", Check.STATE, () -> x.ride(r, 2, TOP, FULL, false));
        refusedOfRider2(x, r);
    }

    private static void refusedOfRider2(Office x, int r) {
        for (int n : new int[] {-1, 5, 12, Integer.MIN_VALUE, Integer.MAX_VALUE}) {
            Check.refused(x, "13: rider " + n, Check.INDEX, () -> x.ride(r, n, 0, 0, false));
        }
        for (int n : new int[] {-1, 2, 8, Integer.MIN_VALUE, Integer.MAX_VALUE}) {
            Check.refused(x, "13: rodeo " + n, Check.INDEX, () -> x.ride(n, 0, 0, 0, false));
        }
    }

    private static void promise13Times() {
        int[] watches = {800800, 800799, 799800, 601999, 601998, 999601, 999600, 1000, 0, 600999, 999999};
        boolean[] isGood = {true, false, false, true, false, true, false, false, false, false, true};
        for (int i = 0; i < watches.length; i++) {
            int told = watches[i];
            Office x = World.of(1, 1);
            int r = World.drawnRodeo(x, 0, 1, 0, 0);
            int due = isGood[i] ? 100 : 0;
            Check.due("13: watches " + told, due, () -> x.ride(r, 0, TOP, told, false));
            Check.due("13: bucked off by " + told, isGood[i] ? 0 : 1, () -> x.beastIs(0, 2));
        }
        Office x = World.of(1, 1);
        int r = World.drawnRodeo(x, 0, 1, 0, 0);
        Check.due("13: a foul", 0, () -> x.ride(r, 0, TOP, 999999, true));
        Check.due("13: a foul is a buck-off", 1, () -> x.beastIs(0, 2));
        Check.due("13: marks all the same", 50, () -> x.beastIs(0, 3));
        Check.refused(x, "13: once, foul or not", Check.STATE, () -> x.ride(r, 0, TOP, 999999, false));
        x.pay(r);
        Check.refused(x, "13: PAID", Check.STATE, () -> x.ride(r, 0, TOP, 999999, false));
    }

    private static void promise14() {
        int[][] beastMarks = {{10, 10}, {10, 9}, {0, 19}, {0, 20}, {25, 0}, {0, 0}, {19, 0}, {20, 0}};
        for (int[] two : beastMarks) {
            Office x = World.of(1, 1);
            int r = World.drawnRodeo(x, 0, 1, 0, 0);
            Check.due("14: not ridden", false, () -> x.isOffered(r, 0));
            x.ride(r, 0, Check.marks(25, two[0], 25, two[1]), FULL, false);
            Check.due("14: marks for the beast", two[0] + two[1] < 20, () -> x.isOffered(r, 0));
        }
        Office x = World.of(1, 2);
        int r = World.drawnRodeo(x, 0, 1, 0, 0);
        x.ride(r, 0, 0, FULL - 1, false);
        Check.due("14: not after a buck-off", false, () -> x.isOffered(r, 0));
        Check.due("14: did not enter", false, () -> x.isOffered(r, 1));
        refusedOfRodeo(x, "14: isOffered", n -> x.isOffered(n, 0));
        refusedOfRider(x, "14: isOffered", n -> x.isOffered(r, n));
        Office foul = World.of(1, 1);
        int s = World.drawnRodeo(foul, 0, 1, 0, 0);
        foul.ride(s, 0, 0, FULL, true);
        Check.due("14: not after a foul", false, () -> foul.isOffered(s, 0));
    }

    private static void promise15() {
        Office x = World.of(3, 2);
        int r = World.drawnRodeo(x, 0, 1, 100, 0);
        int first = x.drawn(r, 0);
        Check.refused(x, "15: not ridden", Check.STATE, () -> x.answer(r, 0, true));
        Check.refused(x, "15: did not enter", Check.STATE, () -> x.answer(r, 1, false));
        Check.due("15: the weak ride's score", 59, () -> World.weakRide(x, r, 0));
        refusedOfRodeo(x, "15: answer", n -> x.answer(n, 0, true));
        refusedOfRider(x, "15: answer", n -> x.answer(r, n, true));
        // 149 modulo 3 took the beast 2; 11249 modulo 2 takes the place 1 of 0 and 1.
        Check.same("15: the first beast", 2, first);
        Check.due("15: another beast", 1, () -> x.answer(r, 0, true));
        Check.due("15: it is drawn", 1, () -> x.drawn(r, 0));
        Check.due("15: no offer any more", false, () -> x.isOffered(r, 0));
        Check.due("15: the score is gone", RankStock.NONE, () -> x.score(r, 0));
        Check.refused(x, "15: answered", Check.STATE, () -> x.answer(r, 0, true));
        Check.refused(x, "15: not paid ahead of the re-ride", Check.STATE, () -> x.pay(r));
        Check.due("15: rides once more", 59, () -> World.weakRide(x, r, 0));
        Check.due("15: no re-ride of a re-ride", false, () -> x.isOffered(r, 0));
        Check.refused(x, "15: nor an answer", Check.STATE, () -> x.answer(r, 0, false));
        Check.refused(x, "15: nor a third ride", Check.STATE, () -> x.ride(r, 0, TOP, FULL, false));
        Check.due("15: the first beast's trip stays", 1, () -> x.beastIs(2, 1));
        Check.due("15: the first beast's marks stay", 19, () -> x.beastIs(2, 3));
        Check.due("15: paid", 1, () -> x.pay(r));
        int left = World.drawnRodeo(x, 10, 2, 100, 0);
        World.weakRide(x, left, 0);
        Check.due("15: left", RankStock.NONE, () -> x.answer(left, 0, false));
        Check.due("15: the score stays", 59, () -> x.score(left, 0));
        Check.refused(x, "15: left is left", Check.STATE, () -> x.answer(left, 0, true));
        Check.refused(x, "15: does not ride", Check.STATE, () -> x.ride(left, 0, TOP, FULL, false));
    }

    private static void promise15Lost() {
        Office x = World.of(2, 2);
        int r = World.drawnRodeo(x, 5, 2, 100, 0);
        World.weakRide(x, r, 0);
        Check.due("15: no beast is left", RankStock.NONE, () -> x.answer(r, 0, true));
        Check.due("15: turned out", RankStock.NONE, () -> x.drawn(r, 0));
        Check.due("15: the score is gone all the same", RankStock.NONE, () -> x.score(r, 0));
        Check.refused(x, "15: rides no more", Check.STATE, () -> x.ride(r, 0, TOP, FULL, false));
        Check.refused(x, "15: no offer", Check.STATE, () -> x.answer(r, 0, true));
        Check.due("15: stays placed", 0, () -> x.placed(r, 0));
        World.bucked(x, r, 1);
        Check.due("15: nobody counts", 0, () -> x.pay(r));
        Check.due("15: all stays", 100, () -> x.rodeoIs(r, 4));
        Office day = World.of(2, 2);
        int on = World.drawnRodeo(day, 10, 1, 0, 0);
        int taken = day.drawn(on, 0);
        World.weakRide(day, on, 0);
        Check.due("15: the other one", 1 - taken, () -> day.answer(on, 0, true));
        int next = World.drawnRodeo(day, 11, 2, 0, 0);
        Check.due("15: that rests too", RankStock.NONE, () -> day.drawn(next, 1));
        Check.due("15: of none", RankStock.NONE, () -> day.drawn(next, 0));
    }

    private static void promise16() {
        Office x = World.of(2, 2);
        int r = World.drawnRodeo(x, 0, 1, 0, 0);
        Check.due("16: without a ride", RankStock.NONE, () -> x.score(r, 0));
        Check.due("16: did not enter", RankStock.NONE, () -> x.score(r, 1));
        World.weakRide(x, r, 0);
        Check.due("16: stands while it is offered", 59, () -> x.score(r, 0));
        x.answer(r, 0, true);
        Check.due("16: gone", RankStock.NONE, () -> x.score(r, 0));
        World.bucked(x, r, 0);
        Check.due("16: of a buck-off", 0, () -> x.score(r, 0));
        x.pay(r);
        Check.due("16: as it is PAID", 0, () -> x.score(r, 0));
        refusedOfRodeo(x, "16: score", n -> x.score(n, 0));
        refusedOfRider(x, "16: score", n -> x.score(r, n));
    }

    private static void dueBeast(Office x, String when, int beast, int... answers) {
        for (int what = 0; what < answers.length; what++) {
            int asked = what;
            Check.due(when + ": beastIs " + beast + " " + what, answers[what], () -> x.beastIs(beast, asked));
        }
    }

    /** One ride of the one beast that is not resting on that day. */
    private static void trip(Office x, int beast, int rodeo, int marks, boolean isGood) {
        for (int k = 0; k < 4; k++) {
            if (x.drawn(rodeo, k) == beast) {
                x.ride(rodeo, k, Check.marks(0, marks / 2, 0, marks - marks / 2), FULL, !isGood);
            }
        }
    }

    private static void promise17() {
        Office two = World.of(2, 1);
        int only = World.drawnRodeo(two, 0, 1, 0, 0);
        World.ride(two, only, 0, 20);
        dueBeast(two, "17: drawn and ridden", 1, RankStock.BULL, 1, 0, 20, 0);
        dueBeast(two, "17: a beast without a trip is ahead of none", 0, RankStock.BULL, 0, 0, 0, RankStock.NONE);
        beastRanks();
    }

    private static void beastRanks() {
        Office x = World.of(4, 4);
        Check.due("17: a fifth, a horse", 4, () -> x.beast(RankStock.HORSE));
        dueBeast(x, "17: new", 4, RankStock.HORSE, 0, 0, 0, RankStock.NONE);
        int one = World.drawnRodeo(x, 0, 4, 0, 0);
        dueBeast(x, "17: drawn, not ridden", 0, RankStock.BULL, 0, 0, 0, RankStock.NONE);
        trip(x, 0, one, 30, true);
        trip(x, 1, one, 40, true);
        trip(x, 2, one, 30, true);
        dueBeast(x, "17: behind more marks", 0, RankStock.BULL, 1, 0, 30, 1);
        dueBeast(x, "17: most marks", 1, RankStock.BULL, 1, 0, 40, 0);
        dueBeast(x, "17: like marks, the lower number", 2, RankStock.BULL, 1, 0, 30, 2);
        dueBeast(x, "17: no trip", 3, RankStock.BULL, 0, 0, 0, RankStock.NONE);
        trip(x, 3, one, 0, false);
        dueBeast(x, "17: the one that bucked off", 3, RankStock.BULL, 1, 1, 0, 0);
        int two = World.drawnRodeo(x, 10, 4, 0, 0);
        trip(x, 3, two, 20, true);
        trip(x, 1, two, 20, true);
        trip(x, 2, two, 10, false);
        dueBeast(x, "17: 1 by 2, 40 by 2", 2, RankStock.BULL, 2, 1, 40, 0);
        dueBeast(x, "17: 1 by 2, 20 by 2", 3, RankStock.BULL, 2, 1, 20, 1);
        dueBeast(x, "17: 0 by 1, 30 by 1", 0, RankStock.BULL, 1, 0, 30, 2);
        dueBeast(x, "17: 0 by 2, 60 by 2, the higher number", 1, RankStock.BULL, 2, 0, 60, 3);
        int three = World.drawnRodeo(x, 20, 4, 0, 0);
        trip(x, 0, three, 0, false);
        trip(x, 2, three, 50, true);
        dueBeast(x, "17: 1 by 3, 90 by 3", 2, RankStock.BULL, 3, 1, 90, 2);
        dueBeast(x, "17: 1 by 2, 30 by 2", 0, RankStock.BULL, 2, 1, 30, 0);
        dueBeast(x, "17: 1 by 2, 20 by 2", 3, RankStock.BULL, 2, 1, 20, 1);
        for (int what : new int[] {-1, 5, Integer.MIN_VALUE, Integer.MAX_VALUE}) {
            Check.refused(x, "17: what " + what, Check.ARGUMENT, () -> x.beastIs(0, what));
            Check.refused(x, "17: beast ahead of what", Check.INDEX, () -> x.beastIs(5, what));
        }
        for (int beast : new int[] {-1, 5, 16, Integer.MIN_VALUE, Integer.MAX_VALUE}) {
            Check.refused(x, "17: beast " + beast, Check.INDEX, () -> x.beastIs(beast, 0));
        }
    }

    private static void promise18() {
        Office x = World.of(4, 4);
        int r = World.drawnRodeo(x, 0, 4, 1000, 0);
        for (int k = 0; k < 4; k++) {
            int rider = k;
            Check.refused(x, "18: one has not ridden", Check.STATE, () -> x.pay(r));
            Check.due("18: rides", 60 + k, () -> World.ride(x, r, rider, 60 + rider));
        }
        Check.due("18: four count", 4, () -> x.pay(r));
        for (int k = 0; k < 4; k++) {
            int rider = k;
            Check.due("18: 40, 30, 20, 10 hundredths", 100 * (k + 1), () -> x.got(r, rider));
        }
        Check.due("18: is PAID", RankStock.PAID, () -> x.rodeoIs(r, 0));
        Check.refused(x, "18: twice", Check.STATE, () -> x.pay(r));
        refusedOfRodeo(x, "18: pay", n -> x.pay(n));
    }

    private static void promise18When() {
        Office x = World.of(1, 3);
        int r = x.rodeo(RankStock.BULL, 0, 0, 1, 2, 100, 10);
        Check.refused(x, "18: OPEN", Check.STATE, () -> x.pay(r));
        x.enter(r, 0, 1, 0);
        x.enter(r, 1, 1, 0);
        x.enter(r, 2, 1, 0);
        x.close(r);
        Check.refused(x, "18: CLOSED", Check.STATE, () -> x.pay(r));
        x.draw(r);
        Check.refused(x, "18: not ridden", Check.STATE, () -> x.pay(r));
        World.weakRide(x, r, 0);
        Check.refused(x, "18: an offer is open", Check.STATE, () -> x.pay(r));
        x.answer(r, 0, false);
        Check.due("18: one is turned out, one is out", 1, () -> x.pay(r));
        Check.due("18: both fees", 120, () -> x.got(r, 0));
        Office none = new Office();
        none.rodeo(RankStock.HORSE, 0, 0, 1, 1, 77, 5);
        none.close(0);
        none.draw(0);
        Check.due("18: without entries", 0, () -> none.pay(0));
        Check.due("18: all stays with the office", 77, () -> none.rodeoIs(0, 4));
    }

    /** Scores of up to eight riders in two performances, -1 a buck-off; what they get and what stays. */
    private static void money(String what, int added, int[] scores, int[] gets, int office) {
        Office x = World.of(16, scores.length);
        int r = x.rodeo(RankStock.BULL, 0, 0, 4, 4, added, 0);
        for (int k = 0; k < scores.length; k++) {
            x.enter(r, k, 15, k % 4);
        }
        x.close(r);
        x.draw(r);
        int good = 0;
        for (int k = 0; k < scores.length; k++) {
            if (scores[k] < 0) {
                World.bucked(x, r, k);
            } else if (scores[k] < 20) {
                x.ride(r, k, scores[k], FULL, false);
                x.answer(r, k, false);
            } else {
                World.ride(x, r, k, scores[k]);
            }
            good += scores[k] < 0 ? 0 : 1;
        }
        Check.due("18: " + what + ": count", good, () -> x.pay(r));
        for (int k = 0; k < gets.length; k++) {
            int rider = k;
            Check.due("18: " + what + ": rider " + k, gets[k], () -> x.got(r, rider));
        }
        Check.due("18: " + what + ": stays", office, () -> x.rodeoIs(r, 4));
        Check.due("18: " + what + ": balances", true, () -> x.balances());
    }

    private static void promise18Money() {
        money("each place rounded down", 99, new int[] {60, 61, 62, 63}, new int[] {9, 19, 29, 39}, 3);
        money("a tie for 1", 1000, new int[] {60, 60, 50, 40}, new int[] {350, 350, 200, 100}, 0);
        money("a tie for 2, rounded", 1009, new int[] {70, 60, 60, 60}, new int[] {403, 201, 201, 201}, 3);
        money("a tie over the last place", 1000, new int[] {70, 60, 50, 40, 40}, new int[] {400, 300, 200, 50, 50}, 0);
        money("a tie of 3 for 3", 1000, new int[] {70, 60, 50, 50, 50}, new int[] {400, 300, 100, 100, 100}, 0);
        money("a fifth gets nothing", 1000, new int[] {70, 60, 50, 40, 30}, new int[] {400, 300, 200, 100, 0}, 0);
        money("five alike", 1003, new int[] {50, 50, 50, 50, 50}, new int[] {200, 200, 200, 200, 200}, 3);
        money("eight alike", 99999, new int[] {30, 30, 30, 30, 30, 30, 30, 30},
            new int[] {12499, 12499, 12499, 12499, 12499, 12499, 12499, 12499}, 7);
        money("ground money of 1", 105, new int[] {-1, 70, -1}, new int[] {0, 104, 0}, 1);
        money("ground money of 2, rounded", 107, new int[] {50, -1, 70}, new int[] {47, 0, 57}, 3);
        money("ground money of 3", 1070, new int[] {50, 60, 70}, new int[] {249, 356, 463}, 2);
        money("ground money with a tie", 1000, new int[] {60, 60, 40}, new int[] {383, 383, 233}, 1);
        money("a score of 0 counts", 1000, new int[] {0, 60, -1, -1}, new int[] {450, 550, 0, 0}, 0);
        money("nobody counts", 1234, new int[] {-1, -1}, new int[] {0, 0}, 1234);
        money("nothing in it", 0, new int[] {60, 70}, new int[] {0, 0}, 0);
    }

    private static void promise19() {
        Office x = World.of(2, 2);
        int r = World.drawnRodeo(x, 0, 1, 100, 0);
        World.ride(x, r, 0, 60);
        Check.due("19: ahead of its being paid", 0, () -> x.got(r, 0));
        x.pay(r);
        Check.due("19: paid", 100, () -> x.got(r, 0));
        Check.due("19: did not enter", 0, () -> x.got(r, 1));
        refusedOfRodeo(x, "19: got", n -> x.got(n, 0));
        refusedOfRider(x, "19: got", n -> x.got(r, n));
    }

    private static void promise20() {
        Office x = World.of(1, 2);
        Check.due("20: nothing yet", 0, () -> x.counts(0));
        int[] pays = {50, 10, 30, 40, 20, 60, 40, 0};
        int[] due = {50, 60, 90, 120, 120, 150, 150, 150};
        for (int i = 0; i < pays.length; i++) {
            World.win(x, 5 * i, 0, pays[i]);
            Check.due("20: after " + (i + 1), due[i], () -> x.counts(0));
        }
        Check.due("20: the other one", 0, () -> x.counts(1));
        refusedOfRider(x, "20: counts", n -> x.counts(n));
    }

    private static void dueRanks(Office x, String when, int... riders) {
        for (int rank = 0; rank < 12; rank++) {
            int asked = rank;
            int due = rank < riders.length ? riders[rank] : RankStock.NONE;
            Check.due(when + ": rank " + rank, due, () -> x.ranked(asked));
        }
    }

    private static void promise21() {
        Office x = World.of(2, 3);
        dueRanks(x, "21: like ones", 0, 1, 2);
        World.win(x, 0, 2, 300);
        dueRanks(x, "21: by what they count", 2, 0, 1);
        World.win(x, 5, 1, 100);
        World.win(x, 10, 1, 100);
        World.win(x, 15, 1, 100);
        dueRanks(x, "21: like ones by number", 1, 2, 0);
        Office all = World.of(2, 2);
        for (int i = 0; i < 4; i++) {
            World.win(all, 5 * i, 1, 100);
        }
        World.win(all, 20, 0, 300);
        dueRanks(all, "21: by all pays", 1, 0);
        World.win(all, 30, 0, 10);
        dueRanks(all, "21: what counts first", 0, 1);
        for (int rank : new int[] {-1, 12, Integer.MIN_VALUE, Integer.MAX_VALUE}) {
            Check.refused(all, "21: rank " + rank, Check.ARGUMENT, () -> all.ranked(rank));
        }
        dueRanks(new Office(), "21: nobody");
        dueRanks(World.of(0, 12), "21: twelve", 0, 1, 2, 3, 4, 5, 6, 7, 8, 9, 10, 11);
    }

    private static void promise22() {
        Office x = World.of(3, 4);
        Check.due("22: at first", true, () -> x.balances());
        for (int i = 0; i < 8; i++) {
            int r = World.drawnRodeo(x, 2 * i, 4, 101 + i, 13);
            Check.due("22: drawn", true, () -> x.balances());
            for (int k = 0; k < 4; k++) {
                if (x.drawn(r, k) != RankStock.NONE) {
                    World.weakRide(x, r, k);
                    x.answer(r, k, k == i % 4);
                    if (x.score(r, k) == RankStock.NONE && x.drawn(r, k) != RankStock.NONE) {
                        World.bucked(x, r, k);
                    }
                }
            }
            Check.due("22: ridden", true, () -> x.balances());
            x.pay(r);
            int sum = x.rodeoIs(r, 4);
            for (int k = 0; k < 4; k++) {
                sum += x.got(r, k);
            }
            Check.same("22: pays and office are the pot", x.rodeoIs(r, 3), sum);
            Check.due("22: paid", true, () -> x.balances());
        }
    }
}
