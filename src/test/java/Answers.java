import java.util.LinkedHashMap;
import java.util.Map;

/**
 * Everything that can be asked of an object, so that what a call has changed shows. An object is good for
 * 512 calls, and these are some 220 of them: enough to ask before and behind one call.
 */
final class Answers {
    /** The SPANS of the Scenes, each end and the number just outside it. */
    private static final int[] XS = {-4, -3, 4, 5};
    private static final int[] YS = {9, 10, 12, 13};

    private final Map<String, Integer> answers = new LinkedHashMap<>();

    Answers(SumsOver s) {
        for (int what = 0; what < 26; what++) {
            boolean told = what < 5 || what >= 10 && what < 16 || what >= 20;
            if (told) answers.put("count(" + what + ")", s.count(what));
        }
        for (int step = 0; step <= s.count(0); step++) {
            answers.put("judge(" + step + ")", s.judge(step));
            answers.put("over(" + step + ")", s.over(step));
            answers.put("shown(" + step + ")", s.shown(step));
            answers.put("turned(" + step + ")", s.turned(step));
            answers.put("listed(" + step + ")", s.listed(step));
        }
        for (int name = 0; name < 6; name++) {
            answers.put("ends(" + name + ", 0)", s.ends(name, 0));
            answers.put("ends(" + name + ", 1)", s.ends(name, 1));
            answers.put("need(" + name + ")", s.need(name));
            runs(s, name, 0, 0);
            runs(s, name, -3, 10);
            runs(s, name, 4, 12);
        }
        answers.put("price()", s.price());
        for (int x : XS) {
            for (int y : YS) {
                runs(s, 2, x, y);
                answers.put("first(" + x + ", " + y + ")", s.first(x, y));
            }
        }
    }

    private void runs(SumsOver s, int name, int x, int y) {
        answers.put("run(" + x + ", " + y + ", " + name + ")", s.run(x, y, name));
    }

    void dueAs(Check check, String what, Answers want) {
        check.due(what + ", number of answers", answers.size(), want.answers.size());
        for (Map.Entry<String, Integer> one : answers.entrySet()) {
            Integer due = want.answers.get(one.getKey());
            check.due(what + ", then " + one.getKey(), one.getValue(), due == null ? Long.MIN_VALUE : due);
        }
    }
}
