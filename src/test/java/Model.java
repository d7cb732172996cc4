import java.util.ArrayList;
import java.util.Arrays;
import java.util.Collections;
import java.util.Comparator;
import java.util.List;

/**
 * The document once more, written in another way, to compare the program with: logs of draws and
 * rides instead of counters, seats that are moved for the most, and lists that are sorted.
 */
final class Model {
    private record Draw(int beast, int day) { }

    private record Trip(int beast, boolean isGood, int marks) { }

    private static final class Show {
        int kind, mile, first, performances, places, added, fee, state, office;
        final List<Integer> order = new ArrayList<>();
        final int[] set = new int[12], wish = new int[12], where = new int[12], beast = new int[12];
        final int[] score = new int[12], money = new int[12], phase = new int[12];
        final boolean[] good = new boolean[12], again = new boolean[12];

        Show() {
            Arrays.fill(where, -1);
            Arrays.fill(beast, -1);
            Arrays.fill(score, -1);
        }

        int countPlaced() {
            int n = 0;
            for (int w : where) {
                n += w >= 0 ? 1 : 0;
            }
            return n;
        }

        int pot() {
            return state == 0 ? 0 : added + fee * countPlaced();
        }
    }

    /** Phases of a rider in a rodeo. */
    private static final int IDLE = 0, MOUNTED = 1, ASKED = 2, FINISHED = 3, TURNED_OUT = 4;

    private final List<Integer> kinds = new ArrayList<>();
    private final List<Show> shows = new ArrayList<>();
    private final List<Draw> draws = new ArrayList<>();
    private final List<Trip> trips = new ArrayList<>();
    private int riders = 0;
    private long number = 1;

    /** What happened, so that a test can tell that its runs reached it. */
    int turnedOut, reRides, reRidesLost, reRidesLeft, ties, grounds, nothingCounts, outByPlace, outByWay;
    int mostAbovePlaced, cutRanks, bucked;

    private static void argument(boolean isFine) {
        if (!isFine) {
            throw new IllegalArgumentException();
        }
    }

    private static void state(boolean isFine) {
        if (!isFine) {
            throw new IllegalStateException();
        }
    }

    private Show show(int rodeo) {
        if (rodeo < 0 || rodeo >= shows.size()) {
            throw new IndexOutOfBoundsException();
        }
        return shows.get(rodeo);
    }

    private Show show(int rodeo, int rider) {
        Show s = show(rodeo);
        if (rider < 0 || rider >= riders) {
            throw new IndexOutOfBoundsException();
        }
        return s;
    }

    int beast(int kind) {
        argument(kind == 0 || kind == 1);
        state(kinds.size() < 16);
        kinds.add(kind);
        return kinds.size() - 1;
    }

    int rider() {
        state(riders < 12);
        return riders++;
    }

    int rodeo(int kind, int mile, int first, int performances, int places, int added, int fee) {
        argument(kind == 0 || kind == 1);
        argument(mile >= 0 && mile <= 2000);
        argument(first >= 0 && first <= 60);
        argument(performances >= 1 && performances <= 4);
        argument(places >= 1 && places <= 4);
        argument(added >= 0 && added <= 99999);
        argument(fee >= 0 && fee <= 999);
        state(shows.size() < 8);
        Show s = new Show();
        s.kind = kind;
        s.mile = mile;
        s.first = first;
        s.performances = performances;
        s.places = places;
        s.added = added;
        s.fee = fee;
        shows.add(s);
        return shows.size() - 1;
    }

    int rodeoIs(int rodeo, int what) {
        Show s = show(rodeo);
        argument(what >= 0 && what <= 4);
        return new int[] {s.state, s.order.size(), s.countPlaced(), s.pot(), s.office}[what];
    }

    int enter(int rodeo, int rider, int set, int wish) {
        Show s = show(rodeo, rider);
        argument(set >= 1 && set <= 15);
        for (int p = s.performances; p < 4; p++) {
            argument((set & 1 << p) == 0);
        }
        argument(wish >= 0 && wish < 4 && (set & 1 << wish) != 0);
        state(s.state == 0 && !s.order.contains(rider));
        s.order.add(rider);
        s.set[rider] = set;
        s.wish[rider] = wish;
        return s.order.size();
    }

    private boolean reaches(Show s, int rider, int p) {
        for (Show other : shows) {
            if (other != s && other.where[rider] >= 0) {
                int days = Math.abs(s.first + p - other.first - other.where[rider]);
                int miles = Math.abs(s.mile - other.mile);
                if (days == 0 || days * 400 < miles) {
                    return false;
                }
            }
        }
        return true;
    }

    int close(int rodeo) {
        Show s = show(rodeo);
        state(s.state == 0);
        for (int rider : s.order) {
            List<Integer> tries = new ArrayList<>(List.of(s.wish[rider]));
            for (int p = 0; p < 4; p++) {
                if ((s.set[rider] & 1 << p) != 0) {
                    tries.add(p);
                }
            }
            boolean hadPlace = false;
            for (int p : tries) {
                int taken = 0;
                for (int w : s.where) {
                    taken += w == p ? 1 : 0;
                }
                hadPlace |= taken < s.places;
                if (s.where[rider] < 0 && taken < s.places && reaches(s, rider, p)) {
                    s.where[rider] = p;
                }
            }
            if (s.where[rider] < 0) {
                outByWay += hadPlace ? 1 : 0;
                outByPlace += hadPlace ? 0 : 1;
            }
        }
        s.state = 1;
        mostAbovePlaced += most(rodeo) > s.countPlaced() ? 1 : 0;
        return s.countPlaced();
    }

    int placed(int rodeo, int rider) {
        return show(rodeo, rider).where[rider];
    }

    /** Each entry in turn looks for a seat, moving those who sit (seat p * places + i). */
    int most(int rodeo) {
        Show s = show(rodeo);
        int[] sits = new int[s.performances * s.places];
        Arrays.fill(sits, -1);
        int most = 0;
        for (int rider : s.order) {
            most += seat(s, rider, sits, new boolean[sits.length]) ? 1 : 0;
        }
        return most;
    }

    private boolean seat(Show s, int rider, int[] sits, boolean[] tried) {
        for (int i = 0; i < sits.length; i++) {
            int p = i / s.places;
            if (!tried[i] && (s.set[rider] & 1 << p) != 0 && reaches(s, rider, p)) {
                tried[i] = true;
                if (sits[i] < 0 || seat(s, sits[i], sits, tried)) {
                    sits[i] = rider;
                    return true;
                }
            }
        }
        return false;
    }

    void hide(int told) {
        argument(told >= 0 && told <= 65536);
        number = told;
    }

    private void mount(Show s, int rider) {
        int day = s.first + s.where[rider];
        List<Integer> free = new ArrayList<>();
        for (int b = 0; b < kinds.size(); b++) {
            boolean isFree = kinds.get(b) == s.kind;
            for (Draw d : draws) {
                isFree &= d.beast != b || Math.abs(d.day - day) > 1;
            }
            if (isFree) {
                free.add(b);
            }
        }
        if (free.isEmpty()) {
            turnedOut++;
            s.beast[rider] = -1;
            s.phase[rider] = TURNED_OUT;
            return;
        }
        number = (number * 75 + 74) % 65537;
        s.beast[rider] = free.get((int) (number % free.size()));
        s.phase[rider] = MOUNTED;
        draws.add(new Draw(s.beast[rider], day));
    }

    int draw(int rodeo) {
        Show s = show(rodeo);
        state(s.state == 1);
        for (int p = 0; p < s.performances; p++) {
            for (int rider : s.order) {
                if (s.where[rider] == p) {
                    mount(s, rider);
                }
            }
        }
        s.state = 2;
        int mounted = 0;
        for (int b : s.beast) {
            mounted += b >= 0 ? 1 : 0;
        }
        return mounted;
    }

    int drawn(int rodeo, int rider) {
        return show(rodeo, rider).beast[rider];
    }

    int ride(int rodeo, int rider, int marks, int watches, boolean isFoul) {
        Show s = show(rodeo, rider);
        argument(marks >= 0 && marks < 26 * 26 * 26 * 26);
        argument(watches >= 0 && watches < 1000000);
        state(s.state == 2 && s.phase[rider] == MOUNTED);
        int beastMarks = marks / 26 % 26 + marks / 17576;
        int riderMarks = marks % 26 + marks / 676 % 26;
        s.good[rider] = !isFoul && watches / 1000 + watches % 1000 >= 1600;
        s.score[rider] = s.good[rider] ? beastMarks + riderMarks : 0;
        bucked += s.good[rider] ? 0 : 1;
        s.phase[rider] = s.good[rider] && beastMarks < 20 && !s.again[rider] ? ASKED : FINISHED;
        trips.add(new Trip(s.beast[rider], s.good[rider], beastMarks));
        return s.score[rider];
    }

    boolean isOffered(int rodeo, int rider) {
        return show(rodeo, rider).phase[rider] == ASKED;
    }

    int answer(int rodeo, int rider, boolean isTaken) {
        Show s = show(rodeo, rider);
        state(s.phase[rider] == ASKED);
        if (!isTaken) {
            reRidesLeft++;
            s.phase[rider] = FINISHED;
            return -1;
        }
        s.score[rider] = -1;
        s.good[rider] = false;
        s.again[rider] = true;
        mount(s, rider);
        reRides += s.beast[rider] >= 0 ? 1 : 0;
        reRidesLost += s.beast[rider] >= 0 ? 0 : 1;
        return s.beast[rider];
    }

    int score(int rodeo, int rider) {
        return show(rodeo, rider).score[rider];
    }

    private int[] sumsOf(int beast) {
        int[] sums = new int[3];
        for (Trip t : trips) {
            if (t.beast == beast) {
                sums[0]++;
                sums[1] += t.isGood ? 0 : 1;
                sums[2] += t.marks;
            }
        }
        return sums;
    }

    int beastIs(int beast, int what) {
        if (beast < 0 || beast >= kinds.size()) {
            throw new IndexOutOfBoundsException();
        }
        argument(what >= 0 && what <= 4);
        if (what == 0) {
            return kinds.get(beast);
        }
        if (what < 4) {
            return sumsOf(beast)[what - 1];
        }
        List<Integer> tripped = new ArrayList<>();
        for (int b = 0; b < kinds.size(); b++) {
            if (sumsOf(b)[0] > 0) {
                tripped.add(b);
            }
        }
        // Both fractions times both trips are whole numbers.
        tripped.sort((a, b) -> {
            int[] x = sumsOf(a);
            int[] y = sumsOf(b);
            long product = (long) x[0] * y[0];
            long byBucks = product * y[1] / y[0] - product * x[1] / x[0];
            long byMarks = product * y[2] / y[0] - product * x[2] / x[0];
            return byBucks != 0 ? Long.signum(byBucks) : byMarks != 0 ? Long.signum(byMarks) : a - b;
        });
        return tripped.indexOf(beast);
    }

    int pay(int rodeo) {
        Show s = show(rodeo);
        state(s.state == 2);
        List<Integer> good = new ArrayList<>();
        for (int rider : s.order) {
            boolean isEnded = s.where[rider] < 0 || s.phase[rider] == FINISHED || s.phase[rider] == TURNED_OUT;
            state(isEnded);
            if (s.good[rider]) {
                good.add(rider);
            }
        }
        good.sort(Comparator.comparing(r -> -s.score[r]));
        int[] share = new int[Math.max(4, good.size())];
        for (int i = 0; i < 4; i++) {
            share[i] = s.pot() * (4 - i) / 10;
        }
        int from = 0;
        while (from < good.size()) {
            int to = from;
            int sum = 0;
            while (to < good.size() && s.score[good.get(to)] == s.score[good.get(from)]) {
                sum += share[to++];
            }
            ties += to - from > 1 ? 1 : 0;
            for (int i = from; i < to; i++) {
                s.money[good.get(i)] += sum / (to - from);
            }
            from = to;
        }
        if (!good.isEmpty() && good.size() < 4) {
            grounds++;
            int sum = 0;
            for (int i = good.size(); i < 4; i++) {
                sum += share[i];
            }
            for (int rider : good) {
                s.money[rider] += sum / good.size();
            }
        }
        nothingCounts += good.isEmpty() ? 1 : 0;
        s.office = s.pot();
        for (int m : s.money) {
            s.office -= m;
        }
        s.state = 3;
        return good.size();
    }

    int got(int rodeo, int rider) {
        return show(rodeo, rider).money[rider];
    }

    private List<Integer> pays(int rider) {
        List<Integer> pays = new ArrayList<>(List.of(0, 0, 0));
        for (Show s : shows) {
            pays.add(s.money[rider]);
        }
        pays.sort(Collections.reverseOrder());
        return pays;
    }

    int counts(int rider) {
        if (rider < 0 || rider >= riders) {
            throw new IndexOutOfBoundsException();
        }
        List<Integer> pays = pays(rider);
        return pays.get(0) + pays.get(1) + pays.get(2);
    }

    private int all(int rider) {
        int sum = 0;
        for (int p : pays(rider)) {
            sum += p;
        }
        return sum;
    }

    int ranked(int rank) {
        argument(rank >= 0 && rank <= 11);
        List<Integer> list = new ArrayList<>();
        for (int r = 0; r < riders; r++) {
            list.add(r);
        }
        list.sort(Comparator.<Integer>comparingInt(r -> -counts(r)).thenComparingInt(r -> -all(r)));
        for (int i = 1; i < list.size(); i++) {
            boolean isCut = counts(list.get(i - 1)) == counts(list.get(i)) && all(list.get(i - 1)) != all(list.get(i));
            cutRanks += isCut ? 1 : 0;
        }
        return rank < list.size() ? list.get(rank) : -1;
    }

    boolean balances() {
        for (Show s : shows) {
            int sum = s.office;
            for (int m : s.money) {
                sum += m;
            }
            if (s.state == 3 && sum != s.pot()) {
                return false;
            }
        }
        for (int i = 0; i < draws.size(); i++) {
            for (int j = 0; j < i; j++) {
                boolean isSame = draws.get(i).beast == draws.get(j).beast;
                if (isSame && Math.abs(draws.get(i).day - draws.get(j).day) < 2) {
                    return false;
                }
            }
        }
        return true;
    }
}
