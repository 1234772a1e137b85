/** No call throws, whatever it is given, and a refused one changes nothing. */
final class WildTest {
    private static final int RUNS = 300;
    private static final int CALLS = 512;

    public static void main(String[] args) {
        for (int seed = 0; seed < RUNS; seed++) {
            run(seed);
        }
        Check.end();
    }

    private static void run(int seed) {
        NodTax x = new NodTax();
        AnyCall calls = new AnyCall(seed);
        for (int i = 0; i < CALLS; i++) {
            int[] before = state(x);
            long answer = 0;
            try {
                answer = calls.on(x);
            } catch (RuntimeException e) {
                Check.holds("run " + seed + ", call " + i + " threw " + e, false);
            }
            if (answer < 0) {
                Check.holds("run " + seed + ", call " + i + " is refused and changes nothing",
                        java.util.Arrays.equals(before, state(x)));
            }
        }
    }

    private static int[] state(NodTax x) {
        int[] told = new int[90];
        for (int what = 0; what < told.length; what++) {
            told[what] = x.told(what);
        }
        return told;
    }
}
