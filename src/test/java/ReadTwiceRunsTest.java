import java.util.HashMap;
import java.util.Map;

/**
 * Random runs in which blocks are altered between two reads of one call behind a right DIGEST, compared with the
 * Model. Arguments (for a longer search by hand): as RandomRunsTest has them.
 */
public final class ReadTwiceRunsTest {
    private ReadTwiceRunsTest() {
    }

    public static void main(String[] args) {
        if (Forge.of(new LyingDisk()) == null || !Forge.giveAllOneDigest(new LyingDisk())) {
            System.out.println("ReadTwiceRunsTest: LyingDisk holds its state in another way; nothing was forged");
            return;
        }
        boolean byHand = args.length > 1;
        int runs = byHand ? Integer.parseInt(args[0]) : 600;
        long first = byHand ? Long.parseLong(args[1]) : 1;
        int wrong = 0;
        Map<String, Integer> answers = new HashMap<>();
        for (long seed = first; seed < first + runs && wrong < 3; seed++) {
            ReadTwiceRun run = new ReadTwiceRun(seed, args.length > 2);
            run.play();
            run.countAnswers(answers);
            if (!run.same) {
                wrong++;
                System.out.println("seed " + seed + ":");
                run.log.forEach(System.out::println);
            }
        }
        if (byHand) {
            answers.keySet().stream().sorted().forEach(a -> System.out.println(a + ": " + answers.get(a)));
        }
        System.out.println("ReadTwiceRunsTest: " + runs + " runs, " + wrong + " wrong");
        System.exit(wrong == 0 ? 0 : 1);
    }
}
