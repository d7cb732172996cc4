/** Small worlds that the tests begin with. */
final class World {
    /** All marks are 25. */
    static final int TOP = 456975;
    /** Both watches tell just as much as is needed. */
    static final int FULL = 800800;
    /** What lies outside of every range. */
    static final int[] ENDS = {Integer.MIN_VALUE, Integer.MAX_VALUE};

    private World() {
    }

    static Office of(int bulls, int riders) {
        Office x = new Office();
        for (int i = 0; i < bulls; i++) {
            x.beast(RankStock.BULL);
        }
        for (int i = 0; i < riders; i++) {
            x.rider();
        }
        return x;
    }

    /** A rodeo for bulls at the mile 0 without money. */
    static int rodeo(Office x, int first, int performances, int places) {
        return rodeoAt(x, 0, first, performances, places);
    }

    static int rodeoAt(Office x, int mile, int first, int performances, int places) {
        return x.rodeo(RankStock.BULL, mile, first, performances, places, 0, 0);
    }

    /** A rodeo of one performance, that the riders from 0 enter, closed and drawn. */
    static int drawnRodeo(Office x, int day, int riders, int added, int fee) {
        int r = x.rodeo(RankStock.BULL, 0, day, 1, 4, added, fee);
        for (int k = 0; k < riders; k++) {
            x.enter(r, k, 1, 0);
        }
        x.close(r);
        x.draw(r);
        return r;
    }

    /** A rodeo on that day with that rider alone, closed. */
    static int closedFor(Office x, int mile, int day, int rider) {
        int r = rodeoAt(x, mile, day, 1, 1);
        x.enter(r, rider, 1, 0);
        x.close(r);
        return r;
    }

    /** A ride with that score, 20 to 70, with no re-ride offered; the beast gets 20 marks of it. */
    static int ride(Office x, int r, int k, int score) {
        int forRider = score - 20;
        return x.ride(r, k, Check.marks(forRider / 2, 10, forRider - forRider / 2, 10), FULL, false);
    }

    /** A ride of a weak beast, after which a re-ride is offered: the score is 59. */
    static int weakRide(Office x, int r, int k) {
        return x.ride(r, k, Check.marks(20, 9, 20, 10), FULL, false);
    }

    static void bucked(Office x, int r, int k) {
        x.ride(r, k, Check.marks(20, 10, 20, 10), FULL - 1, false);
    }

    /** A rodeo that one rider alone enters and wins: all its money, if it is a multiple of 10. */
    static int win(Office x, int day, int rider, int money) {
        int r = x.rodeo(RankStock.BULL, 0, day, 1, 1, money, 0);
        x.enter(r, rider, 1, 0);
        x.close(r);
        x.draw(r);
        ride(x, r, rider, 60);
        x.pay(r);
        return r;
    }

    /** One below the least, one above the greatest, and the ends of int. */
    static int[] outside(int least, int greatest) {
        return new int[] {least - 1, greatest + 1, Integer.MIN_VALUE, Integer.MAX_VALUE};
    }
}
