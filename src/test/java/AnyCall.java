import java.util.Random;

/** Draws any call of the face with any numbers, wild ones among them. */
final class AnyCall {
    static final int KINDS = 28;
    private static final int[] WILD = {Integer.MIN_VALUE, Integer.MIN_VALUE + 1, -100, -2, -1, 60, 100, 1000,
        Integer.MAX_VALUE - 1, Integer.MAX_VALUE};

    private final Random random;

    AnyCall(int seed) {
        random = new Random(seed);
    }

    private int number(int high) {
        return random.nextInt(12) == 0 ? WILD[random.nextInt(WILD.length)] : random.nextInt(high + 2) - 1;
    }

    long on(NodTax x) {
        return on(x, random.nextInt(KINDS));
    }

    long on(NodTax x, int kind) {
        return kind < 7 ? church(x, kind) : kind < 16 ? minutes(x, kind) : counts(x, kind);
    }

    private int church(NodTax x, int kind) {
        switch (kind) {
            case 0: return random.nextInt(8) == 0 ? x.church(number(3)) : 0;
            case 1: return x.hearer(number(7), number(11), number(20), number(5), number(1), random.nextInt(5) == 0);
            case 2: return random.nextInt(4) == 0 ? x.leave(number(7)) : 0;
            case 3: return x.set(number(2), number(9));
            case 4: return x.say(random.nextInt(40) == 0 ? number(130) : "whoncs~".charAt(random.nextInt(7)));
            case 5: return random.nextInt(6) == 0 ? x.wipe() : 0;
            default: return x.fault();
        }
    }

    private int minutes(NodTax x, int kind) {
        switch (kind) {
            case 7: return x.heard(number(7), number(10), number(3));
            case 8: return x.sum(number(10), number(4));
            case 9: return x.first(number(1));
            case 10: return x.gain();
            case 11: return x.order(number(1), number(7));
            case 12: return x.start(number(1));
            case 13: return x.seated(number(1));
            case 14: return x.hired(number(60), number(1));
            default: return x.least();
        }
    }

    private long counts(NodTax x, int kind) {
        switch (kind) {
            case 16: return x.seen(number(6), number(8));
            case 17: return x.forget();
            case 18: return x.preached(number(6));
            case 19: return x.surely();
            case 20: return x.dips(number(7), number(1));
            case 21: return x.alike(number(10));
            case 22: return x.parishes(number(2));
            case 23: return x.cold(number(10), number(1), number(1));
            case 24: return x.year(number(9999), number(50), number(2));
            case 25: return x.image(number(1));
            case 26: return x.restore(number(1));
            default: return x.told(number(90));
        }
    }
}
