import java.util.HashMap;
import java.util.Map;

/**
 * Random runs with fixed seeds, compared with the Model. Arguments (for a longer search by hand): the number
 * of runs and the first seed; with a third one, "deep", the runs are longer and more is compared.
 */
public final class RandomRunsTest {
    private RandomRunsTest() {
    }

    public static void main(String[] args) {
        boolean byHand = args.length > 1;
        int runs = byHand ? Integer.parseInt(args[0]) : 600;
        long first = byHand ? Long.parseLong(args[1]) : 1;
        int wrong = 0;
        Map<String, Integer> answers = new HashMap<>();
        for (long seed = first; seed < first + runs && wrong < 3; seed++) {
            RandomRun run = new RandomRun(seed, args.length > 2);
            run.play();
            run.countAnswers(answers);
            if (!run.same) {
                wrong++;
                System.out.println("seed " + seed + ":");
                run.log.forEach(System.out::println);
            }
        }
        if (byHand) {
            answers.keySet().stream().sorted().forEach(a -> System.out.println(a + ": " + answers.get(a)));
        }
        for (String rare : new String[] {"make -> -9", "make -> -10", "move -> -7", "size -> -9",
            "write -> -10", "remove -> -8", "mount -> -1", "sync -> -2", "read -> -1", "told -> -2", "write -> -2"}) {
            if (answers.getOrDefault(rare, 0) == 0) {
                System.out.println("the runs never came to " + rare);
                wrong++;
            }
        }
        System.out.println("RandomRunsTest: " + runs + " runs, " + wrong + " wrong");
        System.exit(wrong == 0 ? 0 : 1);
    }
}
