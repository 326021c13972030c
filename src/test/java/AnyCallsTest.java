import java.util.ArrayList;
import java.util.List;
import java.util.Random;

/** Promises 1 to 38: 512 calls each of many books, with any arguments, answer as the plain book does, and never throw. */
public final class AnyCallsTest {
    private static final int ROUNDS = 800;
    private static final int[] EDGES = {
        Integer.MIN_VALUE, -2, -1, 0, 1, 2, 5, 6, 9, 10, 11, 12, 13, 15, 16, 17, 20, 24, 62, 64, 100, 101,
        500, 501, 1000, 1001, 30000, 30001, 65535, 65536, Integer.MAX_VALUE - 1, Integer.MAX_VALUE,
    };
    /** Each call with the greatest of its ordinary arguments; D is a day about TODAY, E a set of partners, B a boolean. */
    private static final String[] PAPERS = {
        "fellow", "post 5 9 20", "paper 2 4 15 D 5", "paper 2 4 15 D 5", "note 5 2 D", "note 5 2 D", "note 5 0 D", "open 5 4 4",
        "known 5 2 D", "statute D 2 B", "when 5 3 D B", "first 3 D D", "first 3 D D", "asked", "mean", "later 8",
    };
    private static final String[] ELECTIONS = {
        "fellow", "byelaw D 9 2 3 3 4", "candidate 7", "candidate 7", "propose 5 4", "ballot 5 6 3", "ballot 5 6 3", "asked",
        "withdraw 5", "medal 3 9 20", "award 3 1", "award 3 1", "medals 3 1", "paper 2 1 15 D 5", "note 3 2 D", "later 8",
    };
    private static final String[] SETS = {
        "stock 5 11 3", "stock 0 11 4", "stock 5 11 3", "stock 0 11 4", "sheet 3 12", "lay 3 11 12", "lay 3 5 12",
        "copy 3 5 3 5 4", "fill 5 3", "tear 3", "swaps E", "swaps E", "whole", "asked", "lacks", "digest",
    };
    private static final String[] REST = {
        "told 5 6", "mark 5 2", "force D", "copies 5 11", "count 7", "finding", "findings 5", "digest",
    };
    private static final String[][] ABOUT = {PAPERS, ELECTIONS, SETS};

    public static void main(String[] args) {
        for (int round = 0; round < ROUNDS; round++) {
            Due.about("round " + round + ": ");
            run(new Random(round), forms(round));
        }
        Due.end("AnyCallsTest");
    }

    /** Three rounds of four are about one of the three parts of the book, so that more comes of their calls. */
    private static List<String> forms(int round) {
        List<String> forms = new ArrayList<>(List.of(REST));
        for (int part = 0; part < ABOUT.length; part++) {
            if (round % 4 == part || round % 4 == ABOUT.length) {
                forms.addAll(List.of(ABOUT[part]));
            }
        }
        return forms;
    }

    private static void run(Random random, List<String> forms) {
        Calls book = new Calls();
        Calls plain = Calls.ofPlainBook();
        int today = 0;
        for (int i = 0; i < Calls.MOST_CALLS; i++) {
            String call = call(forms.get(random.nextInt(forms.size())).split(" "), random, today);
            long due = plain.answer(call);
            Due.is("call " + (i + 1) + ", " + call, book.answer(call), due);
            today = call.startsWith("later") && due >= 0 ? (int) due : today;
        }
    }

    private static String call(String[] form, Random random, int today) {
        List<String> arguments = new ArrayList<>();
        for (int i = 1; i < form.length; i++) {
            arguments.add(form[i].equals("B") ? String.valueOf(random.nextBoolean()) : String.valueOf(number(form[i], random, today)));
        }
        return form[0] + "(" + String.join(", ", arguments) + ")";
    }

    private static int number(String most, Random random, int today) {
        int kind = random.nextInt(50);
        if (kind == 0) {
            return random.nextInt();
        }
        if (kind == 1) {
            return EDGES[random.nextInt(EDGES.length)];
        }
        switch (most) {
            case "D": return today - random.nextInt(12) + random.nextInt(10) / 9;
            case "E": return 2 * random.nextInt(32);
            default: return random.nextInt(Integer.parseInt(most) + 1);
        }
    }
}
