import java.util.ArrayList;
import java.util.List;

/** Compares answers with those that are due, and ends a test with code 1 if one was wrong. */
final class Checks {
    private int wrong;
    private String sentence = "";

    /** The words of the document that the checks from here on are about. */
    void sentence(String words) {
        sentence = '"' + words + "\": ";
    }

    void due(String call, int got, int want) {
        if (got != want) {
            wrong++;
            System.out.println(sentence + call + " answered " + got + ", due is " + want);
        }
    }

    void same(String what, List<Integer> got, List<Integer> want) {
        if (!got.equals(want)) {
            wrong++;
            System.out.println(sentence + what + ": " + got + ", due is " + want);
        }
    }

    void finish() {
        System.out.println(wrong == 0 ? "all answers are as due" : wrong + " answers are not as due");
        if (wrong != 0) {
            System.exit(1);
        }
    }

    /** What can be seen of an object, in 130 calls: two of these and a test fit into 512. */
    static List<Integer> state(TapOffice x) {
        List<Integer> seen = new ArrayList<>();
        for (int card = 0; card < 4; card++) {
            for (int word = 0; word < 8; word++) {
                seen.add(x.word(card, 0, word));
                seen.add(x.word(card, 1, word));
            }
            for (int what = 0; what < 6; what++) {
                seen.add(x.office(card, what));
            }
        }
        for (int validator = 0; validator < 4; validator++) {
            for (int i = 0; i < 8; i++) {
                seen.add(x.logged(validator, i, 1));
            }
            seen.add(x.income(validator));
        }
        for (int what = 0; what < 4; what++) {
            seen.add(x.count(what));
        }
        return seen;
    }

    /** Numbers that lie outside 0 .. most, near it and far off. */
    static int[] outside(int most) {
        return new int[] {-1, most + 1, Integer.MIN_VALUE, Integer.MAX_VALUE};
    }
}
