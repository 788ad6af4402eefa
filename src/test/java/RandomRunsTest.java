/** Random runs, the same each time, against the model that tells the document a second time. */
public final class RandomRunsTest {
    public static void main(String[] args) {
        long first = args.length > 0 ? Long.parseLong(args[0]) : 1;
        int runs = args.length > 1 ? Integer.parseInt(args[1]) : 600;
        for (int run = 0; run < runs && !Check.hasFailed(); run++) {
            if (!new Runs(first + run).run(100)) {
                System.out.println("in the run with the seed " + (first + run));
            }
        }
        Check.end();
    }
}
