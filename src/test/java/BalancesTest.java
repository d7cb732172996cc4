import java.lang.reflect.Field;
import java.util.List;

/**
 * Promise 22 where it answers false. No calls of the face lead there, so the books are spoilt from
 * within, by the names of the program's fields; where there are no such fields, nothing is tested here.
 */
public final class BalancesTest {
    private static RankStock x;

    public static void main(String[] args) throws IllegalAccessException {
        if (!hasField(RankStock.class, "rodeos") || !hasField(RankStock.class, "beasts")) {
            System.out.println("BalancesTest: the books are kept in another way");
            return;
        }
        for (int which = 0; which < 2; which++) {
            Check.sentence("22: Tells whether all pays and what stays with the office are the pot, of each PAID rodeo");
            paysOf(which);
            notPaid(which);
            eachByItself();
            Check.sentence("22: and no beast was drawn twice within a day");
            beastOf(which);
        }
        Check.end("BalancesTest");
    }

    /** Two rodeos with two beasts, on the days 10 and 20; both paid. */
    private static void twoPaid() {
        x = new RankStock();
        x.beast(RankStock.BULL);
        x.beast(RankStock.BULL);
        x.rider();
        x.rider();
        for (int r = 0; r < 2; r++) {
            mounted(10 + 10 * r);
            for (int k = 0; k < 2; k++) {
                x.ride(r, k, World.TOP, World.FULL, false);
            }
            x.pay(r);
        }
        Check.due("untouched", true, () -> x.balances());
    }

    private static void mounted(int day) {
        int r = x.rodeo(RankStock.BULL, 0, day, 1, 2, 103, 0);
        for (int k = 0; k < 2; k++) {
            x.enter(r, k, 1, 0);
        }
        x.close(r);
        x.draw(r);
    }

    private static void paysOf(int which) throws IllegalAccessException {
        for (int by : new int[] {-1, 1}) {
            twoPaid();
            Object rodeo = list(x, "rodeos").get(which);
            add(rodeo, "office", by);
            Check.due("the office of rodeo " + which + " by " + by, false, () -> x.balances());
            add(rodeo, "office", -by);
            Check.due("as it was", true, () -> x.balances());
            for (int k = 0; k < 2; k++) {
                Object entry = list(rodeo, "entries").get(k);
                add(entry, "money", by);
                Check.due("the pay of rider " + k + " by " + by, false, () -> x.balances());
                add(entry, "money", -by);
                Check.due("as it was", true, () -> x.balances());
            }
        }
    }

    private static void eachByItself() throws IllegalAccessException {
        twoPaid();
        add(list(x, "rodeos").get(0), "office", 1);
        add(list(x, "rodeos").get(1), "office", -1);
        Check.due("one more and one less", false, () -> x.balances());
    }

    private static void notPaid(int which) throws IllegalAccessException {
        twoPaid();
        mounted(30);
        Object rodeo = list(x, "rodeos").get(2);
        add(rodeo, "office", 1);
        Check.due("a DRAWN one is not looked at", true, () -> x.balances());
        add(list(x, "rodeos").get(which), "office", 1);
        Check.due("the others are", false, () -> x.balances());
    }

    private static void beastOf(int which) throws IllegalAccessException {
        int[][] days = {{10, 10}, {10, 11}, {10, 12}, {9, 10}, {0, 1}, {0, 2}, {0, 63}, {62, 63}, {61, 63}};
        for (int[] two : days) {
            twoPaid();
            Object beast = list(x, "beasts").get(which);
            field(beast, "days").setLong(beast, 1L << two[0] | 1L << two[1]);
            boolean isFine = Math.abs(two[0] - two[1]) > 1;
            Check.due("drawn on the days " + two[0] + " and " + two[1], isFine, () -> x.balances());
        }
    }

    // ---- the books

    private static boolean hasField(Class<?> where, String name) {
        for (Field field : where.getDeclaredFields()) {
            if (field.getName().equals(name)) {
                return true;
            }
        }
        return false;
    }

    private static Field field(Object of, String name) {
        try {
            Field field = of.getClass().getDeclaredField(name);
            field.setAccessible(true);
            return field;
        } catch (NoSuchFieldException e) {
            throw new AssertionError("the program's field " + name + " bears another name", e);
        }
    }

    private static List<?> list(Object of, String name) throws IllegalAccessException {
        return (List<?>) field(of, name).get(of);
    }

    private static void add(Object of, String name, int by) throws IllegalAccessException {
        Field field = field(of, name);
        field.setInt(of, field.getInt(of) + by);
    }
}
