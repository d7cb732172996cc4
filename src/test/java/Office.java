import java.util.ArrayList;
import java.util.List;

/**
 * The program as the tests use it. An object is promised for 512 calls alone, so a look at all that is
 * shown needs several objects: what was told to the object is kept and told again to a new one as soon
 * as the old one has had its calls. That the answers are the same ones then is tested as well.
 */
final class Office {
    static final int MOST_CALLS = 512;
    /** Room for looks is needed behind what is told again. */
    private static final int MOST_TOLD = 480;

    interface Call {
        Object answer(RankStock x);
    }

    private final List<Call> told = new ArrayList<>();
    private final List<String> answers = new ArrayList<>();
    private RankStock x = new RankStock();
    private int calls = 0;
    private boolean isEachKept = false;

    private Object change(Call call) {
        if (told.size() >= MOST_TOLD) {
            throw new AssertionError("a test tells one object too much");
        }
        makeRoom();
        told.add(call);
        try {
            Object answer = call.answer(x);
            answers.add(String.valueOf(answer));
            return answer;
        } catch (RuntimeException e) {
            answers.add(e.getClass().getName());
            throw e;
        }
    }

    private Object look(Call call) {
        if (isEachKept) {
            return change(call);
        }
        makeRoom();
        return call.answer(x);
    }

    /** From now on a look is told again too, as a call that must not change anything. */
    void keepEach(boolean isKept) {
        isEachKept = isKept;
    }

    int countTold() {
        return told.size();
    }

    private void makeRoom() {
        if (calls >= MOST_CALLS) {
            renew();
        }
        calls++;
    }

    /** A new object that has heard the same calls. */
    void renew() {
        x = new RankStock();
        calls = told.size();
        for (int i = 0; i < told.size(); i++) {
            String answer;
            try {
                answer = String.valueOf(told.get(i).answer(x));
            } catch (RuntimeException e) {
                answer = e.getClass().getName();
            }
            Check.same("the call " + i + " told again", answers.get(i), answer);
        }
    }

    int beast(int kind) {
        return (Integer) change(o -> o.beast(kind));
    }

    int rider() {
        return (Integer) change(o -> o.rider());
    }

    int rodeo(int kind, int mile, int first, int performances, int places, int added, int fee) {
        return (Integer) change(o -> o.rodeo(kind, mile, first, performances, places, added, fee));
    }

    int rodeoIs(int rodeo, int what) {
        return (Integer) look(o -> o.rodeoIs(rodeo, what));
    }

    int enter(int rodeo, int rider, int set, int wish) {
        return (Integer) change(o -> o.enter(rodeo, rider, set, wish));
    }

    int close(int rodeo) {
        return (Integer) change(o -> o.close(rodeo));
    }

    int placed(int rodeo, int rider) {
        return (Integer) look(o -> o.placed(rodeo, rider));
    }

    int most(int rodeo) {
        return (Integer) look(o -> o.most(rodeo));
    }

    void hide(int number) {
        change(o -> {
            o.hide(number);
            return "hidden";
        });
    }

    int draw(int rodeo) {
        return (Integer) change(o -> o.draw(rodeo));
    }

    int drawn(int rodeo, int rider) {
        return (Integer) look(o -> o.drawn(rodeo, rider));
    }

    int ride(int rodeo, int rider, int marks, int watches, boolean isFoul) {
        return (Integer) change(o -> o.ride(rodeo, rider, marks, watches, isFoul));
    }

    boolean isOffered(int rodeo, int rider) {
        return (Boolean) look(o -> o.isOffered(rodeo, rider));
    }

    int answer(int rodeo, int rider, boolean isTaken) {
        return (Integer) change(o -> o.answer(rodeo, rider, isTaken));
    }

    int score(int rodeo, int rider) {
        return (Integer) look(o -> o.score(rodeo, rider));
    }

    int beastIs(int beast, int what) {
        return (Integer) look(o -> o.beastIs(beast, what));
    }

    int pay(int rodeo) {
        return (Integer) change(o -> o.pay(rodeo));
    }

    int got(int rodeo, int rider) {
        return (Integer) look(o -> o.got(rodeo, rider));
    }

    int counts(int rider) {
        return (Integer) look(o -> o.counts(rider));
    }

    int ranked(int rank) {
        return (Integer) look(o -> o.ranked(rank));
    }

    boolean balances() {
        return (Boolean) look(o -> o.balances());
    }
}
