/** Promises 1 to 5: each sentence of the document that names an edge. */
public final class EdgesOfMakingTest {
    private static final int B = RankStock.BULL, H = RankStock.HORSE, NONE = RankStock.NONE;
    private static final int[] LEAST = {0, 0, 0, 1, 1, 0, 0};
    private static final int[] GREATEST = {1, 2000, 60, 4, 4, 99999, 999};
    private static final String[] NAMES = {"kind", "mile", "first", "performances", "places", "added", "fee"};

    public static void main(String[] args) {
        beginsWithoutBeasts();
        beginsWithoutRiders();
        beginsWithoutRodeos();
        objectsAreApart();
        beastsAreNumberedFrom0();
        atMost16Beasts();
        atMost16OfBothKinds();
        beastsKind();
        atMost12Riders();
        ridersAreAddedAtAnyTime();
        atMost8Rodeos();
        rodeosLeastAndGreatest();
        rodeosOneBeyond();
        rodeosArgumentsAheadOfNoRoom();
        performancesAreNumberedFrom0();
        daysGoTo63();
        placesAreOfEachPerformance();
        potsLeastAndGreatest();
        rodeosMoneyIsTheirOwn();
        whatOfRodeo();
        stateGoesOneBehindTheOther();
        howManyEntered();
        howManyArePlaced();
        potIs0AheadOfClosing();
        officeIs0AheadOfBeingPaid();
        noSuchRodeo();
        Check.end("EdgesOfMakingTest");
    }

    private static void beginsWithoutBeasts() {
        Check.sentence("1: Begins without beasts, riders and rodeos");
        Office x = new Office();
        for (int w = 0; w < 5; w++) {
            int what = w;
            Check.refused(x, "beastIs", Check.INDEX, () -> x.beastIs(0, what));
        }
        int r = World.rodeo(x, 0, 1, 1);
        Check.due("a rider", 0, () -> x.rider());
        x.enter(r, 0, 1, 0);
        x.close(r);
        Check.due("nothing to draw", 0, () -> x.draw(r));
    }

    private static void beginsWithoutRiders() {
        Check.sentence("1: Begins without beasts, riders and rodeos");
        Office x = new Office();
        for (int k = 0; k < 12; k++) {
            int rank = k;
            Check.due("ranked", NONE, () -> x.ranked(rank));
        }
        Check.refused(x, "counts", Check.INDEX, () -> x.counts(0));
        int r = World.rodeo(x, 0, 1, 1);
        Check.refused(x, "enter", Check.INDEX, () -> x.enter(r, 0, 1, 0));
        Check.refused(x, "placed", Check.INDEX, () -> x.placed(r, 0));
        Check.refused(x, "drawn", Check.INDEX, () -> x.drawn(r, 0));
        Check.refused(x, "ride", Check.INDEX, () -> x.ride(r, 0, 0, 0, false));
        Check.refused(x, "isOffered", Check.INDEX, () -> x.isOffered(r, 0));
        Check.refused(x, "answer", Check.INDEX, () -> x.answer(r, 0, true));
        Check.refused(x, "score", Check.INDEX, () -> x.score(r, 0));
        Check.refused(x, "got", Check.INDEX, () -> x.got(r, 0));
    }

    private static void beginsWithoutRodeos() {
        Check.sentence("1: Begins without beasts, riders and rodeos");
        Office x = World.of(1, 1);
        Check.refused(x, "rodeoIs", Check.INDEX, () -> x.rodeoIs(0, 0));
        Check.refused(x, "enter", Check.INDEX, () -> x.enter(0, 0, 1, 0));
        Check.refused(x, "close", Check.INDEX, () -> x.close(0));
        Check.refused(x, "placed", Check.INDEX, () -> x.placed(0, 0));
        Check.refused(x, "most", Check.INDEX, () -> x.most(0));
        Check.refused(x, "draw", Check.INDEX, () -> x.draw(0));
        Check.refused(x, "drawn", Check.INDEX, () -> x.drawn(0, 0));
        Check.refused(x, "ride", Check.INDEX, () -> x.ride(0, 0, 0, 0, false));
        Check.refused(x, "isOffered", Check.INDEX, () -> x.isOffered(0, 0));
        Check.refused(x, "answer", Check.INDEX, () -> x.answer(0, 0, true));
        Check.refused(x, "score", Check.INDEX, () -> x.score(0, 0));
        Check.refused(x, "pay", Check.INDEX, () -> x.pay(0));
        Check.refused(x, "got", Check.INDEX, () -> x.got(0, 0));
        Check.due("counts", 0, () -> x.counts(0));
        Check.due("balances", true, () -> x.balances());
        Check.due("the first rodeo", 0, () -> World.rodeo(x, 0, 1, 1));
    }

    private static void objectsAreApart() {
        Check.sentence("1: Begins without beasts, riders and rodeos");
        RankStock full = new RankStock();
        for (int i = 0; i < 16; i++) {
            full.beast(B);
        }
        for (int i = 0; i < 12; i++) {
            full.rider();
        }
        for (int i = 0; i < 8; i++) {
            full.rodeo(B, 0, 0, 1, 1, 0, 0);
        }
        full.hide(0);
        RankStock other = new RankStock();
        Check.due("another one's beasts", Check.INDEX, () -> other.beastIs(0, 0));
        Check.due("another one's riders", Check.INDEX, () -> other.counts(0));
        Check.due("another one's rodeos", Check.INDEX, () -> other.rodeoIs(0, 0));
        Check.due("another one's first beast", 0, () -> other.beast(H));
        Check.due("another one's first rider", 0, () -> other.rider());
        Check.due("another one's first rodeo", 0, () -> other.rodeo(H, 0, 0, 1, 1, 0, 0));
        Check.due("the full one's beast", B, () -> full.beastIs(0, 0));
        Check.due("the full one has no room", Check.STATE, () -> full.beast(B));
    }

    private static void beastsAreNumberedFrom0() {
        Check.sentence("Beasts are numbered from 0");
        for (int kind = B; kind <= H; kind++) {
            Office x = new Office();
            int told = kind;
            for (int i = 0; i < 16; i++) {
                int number = i;
                Check.refused(x, "not yet there", Check.INDEX, () -> x.beastIs(number, 0));
                Check.due("beast", number, () -> x.beast(told));
                Check.due("its kind", told, () -> x.beastIs(number, 0));
            }
        }
    }

    private static void atMost16Beasts() {
        Check.sentence("at most 16; 2: if there are 16");
        Office x = World.of(15, 0);
        Check.due("the 16th", 15, () -> x.beast(H));
        Check.refused(x, "the 17th, a bull", Check.STATE, () -> x.beast(B));
        Check.refused(x, "the 17th, a horse", Check.STATE, () -> x.beast(H));
        Check.refused(x, "the 17th is not there", Check.INDEX, () -> x.beastIs(16, 0));
        Check.due("the 16th is", H, () -> x.beastIs(15, 0));
    }

    private static void atMost16OfBothKinds() {
        Check.sentence("at most 16, each a BULL or a HORSE");
        Office x = new Office();
        for (int i = 0; i < 16; i++) {
            int kind = i / 3 % 2;
            Check.due("beast " + i, i, () -> x.beast(kind));
        }
        Check.refused(x, "a 9th horse", Check.STATE, () -> x.beast(H));
        for (int i = 0; i < 16; i++) {
            int beast = i;
            Check.due("kind of " + i, i / 3 % 2, () -> x.beastIs(beast, 0));
        }
    }

    private static void beastsKind() {
        Check.sentence("2: kind: BULL or HORSE");
        Office x = new Office();
        Check.refusedEach(x, "none there, kind", Check.ARGUMENT, World.outside(0, 1), kind -> x.beast(kind));
        Check.due("BULL", 0, () -> x.beast(0));
        Check.due("HORSE", 1, () -> x.beast(1));
        Check.refusedEach(x, "two there, kind", Check.ARGUMENT, World.outside(0, 1), kind -> x.beast(kind));
        Office full = World.of(16, 0);
        Check.refusedEach(full, "no room, kind", Check.ARGUMENT, World.outside(0, 1), kind -> full.beast(kind));
    }

    private static void atMost12Riders() {
        Check.sentence("Riders are numbered from 0, at most 12; 3: if there are 12");
        Office x = new Office();
        for (int i = 0; i < 12; i++) {
            int number = i;
            Check.refused(x, "not yet there", Check.INDEX, () -> x.counts(number));
            Check.due("rider", number, () -> x.rider());
            Check.due("counts", 0, () -> x.counts(number));
        }
        Check.refused(x, "the 13th", Check.STATE, () -> x.rider());
        Check.refused(x, "the 13th once more", Check.STATE, () -> x.rider());
        Check.refused(x, "is not there", Check.INDEX, () -> x.counts(12));
    }

    private static void ridersAreAddedAtAnyTime() {
        Check.sentence("3: Adds a rider");
        Office x = World.of(1, 1);
        int r = World.drawnRodeo(x, 0, 1, 0, 0);
        World.ride(x, r, 0, 60);
        x.pay(r);
        Check.due("behind a PAID rodeo", 1, () -> x.rider());
        Check.due("did not enter it", NONE, () -> x.placed(r, 1));
        Check.due("ranks behind", 1, () -> x.ranked(1));
        Check.due("a beast too", 1, () -> x.beast(H));
    }

    private static int rodeo(Office x, int[] a) {
        return x.rodeo(a[0], a[1], a[2], a[3], a[4], a[5], a[6]);
    }

    private static int[] with(int[] arguments, int index, int value) {
        int[] changed = arguments.clone();
        changed[index] = value;
        return changed;
    }

    private static void atMost8Rodeos() {
        Check.sentence("Rodeos are numbered from 0, at most 8; 4: if there are 8");
        Office x = new Office();
        for (int i = 0; i < 8; i++) {
            int number = i;
            Check.refused(x, "not yet there", Check.INDEX, () -> x.rodeoIs(number, 0));
            Check.due("rodeo", number, () -> rodeo(x, number % 2 == 0 ? LEAST : GREATEST));
        }
        Check.refused(x, "the 9th", Check.STATE, () -> rodeo(x, LEAST));
        Check.refused(x, "the 9th, of all the greatest", Check.STATE, () -> rodeo(x, GREATEST));
        Check.refused(x, "is not there", Check.INDEX, () -> x.rodeoIs(8, 0));
    }

    private static void rodeosLeastAndGreatest() {
        Check.sentence("4: kind: BULL or HORSE, mile: 0 to 2000, first: 0 to 60, and so on");
        for (int argument = 0; argument < 7; argument++) {
            Office x = new Office();
            int[] least = with(GREATEST, argument, LEAST[argument]);
            int[] greatest = with(LEAST, argument, GREATEST[argument]);
            Check.due(NAMES[argument] + ", the least", 0, () -> rodeo(x, least));
            Check.due(NAMES[argument] + ", the greatest", 1, () -> rodeo(x, greatest));
        }
        Office x = new Office();
        Check.due("all the least", 0, () -> rodeo(x, LEAST));
        Check.due("all the greatest", 1, () -> rodeo(x, GREATEST));
    }

    private static void rodeosOneBeyond() {
        Check.sentence("4: IllegalArgumentException as told");
        for (int argument = 0; argument < 7; argument++) {
            Office x = new Office();
            for (int bad : World.outside(LEAST[argument], GREATEST[argument])) {
                int[] small = with(LEAST, argument, bad);
                int[] large = with(GREATEST, argument, bad);
                Check.refused(x, NAMES[argument] + " " + bad, Check.ARGUMENT, () -> rodeo(x, small));
                Check.refused(x, NAMES[argument] + " " + bad, Check.ARGUMENT, () -> rodeo(x, large));
            }
            Check.due("no rodeo was added", 0, () -> rodeo(x, LEAST));
        }
    }

    private static void rodeosArgumentsAheadOfNoRoom() {
        Check.sentence("of several exceptions it is the first one of the throws clause");
        Office x = new Office();
        for (int i = 0; i < 8; i++) {
            rodeo(x, LEAST);
        }
        for (int argument = 0; argument < 7; argument++) {
            for (int bad : World.outside(LEAST[argument], GREATEST[argument])) {
                int[] arguments = with(LEAST, argument, bad);
                Check.refused(x, NAMES[argument] + " " + bad, Check.ARGUMENT, () -> rodeo(x, arguments));
            }
        }
    }

    private static void performancesAreNumberedFrom0() {
        Check.sentence("with 1 to 4 performances, numbered from 0");
        for (int performances = 1; performances <= 4; performances++) {
            Office x = World.of(0, 4);
            int r = World.rodeo(x, 0, performances, 1);
            for (int p = 0; p < performances; p++) {
                int last = p;
                Check.due("enters " + p, p + 1, () -> x.enter(r, last, 1 << last, last));
            }
            int all = performances;
            Check.due("placed", all, () -> x.close(r));
            for (int p = 0; p < performances; p++) {
                int last = p;
                Check.due("placed in", last, () -> x.placed(r, last));
            }
        }
    }

    /** A day tells itself by the distance that can be made from it. */
    private static void daysGoTo63() {
        Check.sentence("on days one behind the other from its first day on, which is 0 to 60");
        for (int first : new int[] {0, 60}) {
            for (int p = 0; p < 4; p++) {
                int day = first + p;
                String name = "the day " + day;
                Check.due(name + ", two days ahead, 801 miles", 0, () -> placedFar(day, first, -2, 801));
                Check.due(name + ", two days ahead, 800 miles", 1, () -> placedFar(day, first, -2, 800));
                Check.due(name + ", two days behind, 800 miles", 1, () -> placedFar(day, first, 2, 800));
                Check.due(name + ", two days behind, 801 miles", 0, () -> placedFar(day, first, 2, 801));
                Check.due(name + " itself", 0, () -> placedFar(day, first, 0, 0));
                Check.due(name + ", one day behind", 1, () -> placedFar(day, first, 1, 0));
            }
        }
    }

    /** Whether one placed on that day is placed so many days later and miles away too. */
    private static int placedFar(int day, int first, int later, int miles) {
        int other = day + later;
        if (other < 0 || other > 63) {
            // No rodeo can have that day: the same distance on the other side is asked instead.
            other = day - later;
        }
        Office x = World.of(0, 1);
        int r = World.rodeo(x, first, 4, 1);
        x.enter(r, 0, 1 << day - first, day - first);
        x.close(r);
        int begin = Math.min(other, 60);
        int s = World.rodeoAt(x, miles, begin, 4, 1);
        x.enter(s, 0, 1 << other - begin, other - begin);
        return x.close(s);
    }

    private static void placesAreOfEachPerformance() {
        Check.sentence("each performance has as many places, 1 to 4");
        for (int places = 1; places <= 4; places++) {
            for (int performances = 1; performances <= 2; performances++) {
                Office x = World.of(0, 12);
                int r = World.rodeo(x, 0, performances, places);
                for (int k = 0; k < 10; k++) {
                    x.enter(r, k, (1 << performances) - 1, 0);
                }
                Check.due(performances + " of " + places, places * performances, () -> x.close(r));
                int last = places * performances - 1;
                int lastPerformance = performances - 1;
                Check.due("the last that is placed", lastPerformance, () -> x.placed(r, last));
                Check.due("the first that is out", NONE, () -> x.placed(r, last + 1));
            }
        }
    }

    private static int potOf(int added, int fee, int riders) {
        Office x = World.of(0, riders);
        int r = x.rodeo(H, 0, 0, 4, 3, added, fee);
        for (int k = 0; k < riders; k++) {
            x.enter(r, k, 15, 0);
        }
        x.close(r);
        return x.rodeoIs(r, 3);
    }

    private static void potsLeastAndGreatest() {
        Check.sentence("money is added, 0 to 99999 dollars, and an entry has a fee, 0 to 999 dollars");
        Check.due("nothing", 0, () -> potOf(0, 0, 12));
        Check.due("added alone", 99999, () -> potOf(99999, 999, 0));
        Check.due("one fee", 999, () -> potOf(0, 999, 1));
        Check.due("all", 99999 + 12 * 999, () -> potOf(99999, 999, 12));
        Check.due("one dollar", 1, () -> potOf(1, 0, 12));
        Check.due("a fee of one", 12, () -> potOf(0, 1, 12));
    }

    private static void rodeosMoneyIsTheirOwn() {
        Check.sentence("Rodeos are numbered from 0, each .. money is added .. a fee");
        Office x = World.of(0, 2);
        for (int i = 0; i < 8; i++) {
            int r = x.rodeo(B, 0, 5 * i, 1, 1, 100 * i, i);
            x.enter(r, i % 2, 1, 0);
            x.close(r);
        }
        for (int i = 0; i < 8; i++) {
            int r = i;
            Check.due("pot of " + i, 101 * i, () -> x.rodeoIs(r, 3));
        }
    }

    private static void whatOfRodeo() {
        Check.sentence("5: what: 0 to 4");
        Office x = World.of(0, 0);
        int r = World.rodeo(x, 0, 1, 1);
        for (int w = 0; w <= 4; w++) {
            int what = w;
            Check.due("what " + what, 0, () -> x.rodeoIs(r, what));
        }
        Check.refusedEach(x, "what", Check.ARGUMENT, World.outside(0, 4), what -> x.rodeoIs(r, what));
        Check.refusedEach(x, "of no rodeo, what", Check.INDEX, World.outside(0, 4), what -> x.rodeoIs(1, what));
    }

    private static void stateGoesOneBehindTheOther() {
        Check.sentence("A rodeo is OPEN, CLOSED, DRAWN or PAID, one behind the other");
        Office x = World.of(0, 0);
        int r = World.rodeo(x, 0, 1, 1);
        Check.due("new", RankStock.OPEN, () -> x.rodeoIs(r, 0));
        Check.refused(x, "draw, OPEN", Check.STATE, () -> x.draw(r));
        Check.refused(x, "pay, OPEN", Check.STATE, () -> x.pay(r));
        x.close(r);
        Check.due("closed", RankStock.CLOSED, () -> x.rodeoIs(r, 0));
        Check.refused(x, "close, CLOSED", Check.STATE, () -> x.close(r));
        Check.refused(x, "pay, CLOSED", Check.STATE, () -> x.pay(r));
        x.draw(r);
        Check.due("drawn", RankStock.DRAWN, () -> x.rodeoIs(r, 0));
        Check.refused(x, "close, DRAWN", Check.STATE, () -> x.close(r));
        Check.refused(x, "draw, DRAWN", Check.STATE, () -> x.draw(r));
        x.pay(r);
        Check.due("paid", RankStock.PAID, () -> x.rodeoIs(r, 0));
        Check.refused(x, "close, PAID", Check.STATE, () -> x.close(r));
        Check.refused(x, "draw, PAID", Check.STATE, () -> x.draw(r));
        Check.refused(x, "pay, PAID", Check.STATE, () -> x.pay(r));
        int next = World.rodeo(x, 0, 1, 1);
        Check.due("the next one is", RankStock.OPEN, () -> x.rodeoIs(next, 0));
        Check.due("this one stays", RankStock.PAID, () -> x.rodeoIs(r, 0));
    }

    private static void howManyEntered() {
        Check.sentence("5: 1 how many entered");
        Office x = World.of(0, 12);
        int r = World.rodeo(x, 0, 1, 1);
        Check.due("nobody", 0, () -> x.rodeoIs(r, 1));
        for (int k = 0; k < 12; k++) {
            x.enter(r, 11 - k, 1, 0);
            int entered = k + 1;
            Check.due("entered", entered, () -> x.rodeoIs(r, 1));
        }
        x.close(r);
        Check.due("those who are out too", 12, () -> x.rodeoIs(r, 1));
        x.draw(r);
        Check.due("DRAWN", 12, () -> x.rodeoIs(r, 1));
        x.pay(r);
        Check.due("PAID", 12, () -> x.rodeoIs(r, 1));
    }

    private static void howManyArePlaced() {
        Check.sentence("5: 2 how many are placed");
        Office x = World.of(1, 12);
        int r = World.rodeo(x, 0, 3, 4);
        Check.due("nobody", 0, () -> x.rodeoIs(r, 2));
        for (int k = 0; k < 12; k++) {
            x.enter(r, k, 7, k % 3);
        }
        Check.due("OPEN", 0, () -> x.rodeoIs(r, 2));
        x.close(r);
        Check.due("all", 12, () -> x.rodeoIs(r, 2));
        x.draw(r);
        Check.due("turned out ones too", 12, () -> x.rodeoIs(r, 2));
        int s = World.rodeo(x, 0, 1, 4);
        x.enter(s, 0, 1, 0);
        x.close(s);
        Check.due("one entered, who is out", 0, () -> x.rodeoIs(s, 2));
    }

    private static void potIs0AheadOfClosing() {
        Check.sentence("5: 3 its pot, 0 ahead of closing");
        Office x = World.of(1, 2);
        int r = x.rodeo(B, 0, 0, 1, 1, 500, 20);
        Check.due("OPEN", 0, () -> x.rodeoIs(r, 3));
        x.enter(r, 0, 1, 0);
        x.enter(r, 1, 1, 0);
        Check.due("OPEN, with entries", 0, () -> x.rodeoIs(r, 3));
        x.close(r);
        Check.due("CLOSED: one is placed, one is out", 520, () -> x.rodeoIs(r, 3));
        x.draw(r);
        Check.due("DRAWN", 520, () -> x.rodeoIs(r, 3));
        World.ride(x, r, 0, 60);
        x.pay(r);
        Check.due("PAID", 520, () -> x.rodeoIs(r, 3));
        Office none = World.of(0, 1);
        int s = none.rodeo(B, 0, 0, 1, 1, 500, 20);
        none.enter(s, 0, 1, 0);
        none.close(s);
        none.draw(s);
        Check.due("of one who is turned out too", 520, () -> none.rodeoIs(s, 3));
    }

    private static void officeIs0AheadOfBeingPaid() {
        Check.sentence("5: 4 what stays with the office, 0 ahead of being paid");
        Office x = World.of(1, 1);
        int r = x.rodeo(B, 0, 0, 1, 1, 500, 20);
        Check.due("OPEN", 0, () -> x.rodeoIs(r, 4));
        x.enter(r, 0, 1, 0);
        x.close(r);
        Check.due("CLOSED", 0, () -> x.rodeoIs(r, 4));
        x.draw(r);
        Check.due("DRAWN", 0, () -> x.rodeoIs(r, 4));
        World.bucked(x, r, 0);
        Check.due("ridden", 0, () -> x.rodeoIs(r, 4));
        x.pay(r);
        Check.due("PAID", 520, () -> x.rodeoIs(r, 4));
    }

    private static void noSuchRodeo() {
        Check.sentence("IndexOutOfBoundsException: there is no such .. rodeo");
        Office x = World.of(0, 0);
        for (int rodeos = 0; rodeos <= 8; rodeos++) {
            Check.refusedEach(x, "with " + rodeos + ", rodeo", Check.INDEX, World.outside(0, rodeos - 1),
                n -> x.rodeoIs(n, 0));
            if (rodeos < 8) {
                World.rodeo(x, 0, 1, 1);
            }
        }
        Check.due("the last one", 0, () -> x.rodeoIs(7, 0));
    }
}
