/** The digest as promise 22 says it, of the answers of all other calls. */
final class Digest {
    private Digest() {
    }

    static long of(StaticLink x) {
        long d = 58126;
        for (int what = 0; what <= 10; what++) {
            d = d * 31 + x.many(what);
        }
        boolean isRight = x.many(3) == 0;
        for (int p = 0; p < x.many(0); p++) {
            for (int what = 0; what <= 7; what++) {
                d = d * 31 + x.ofProcedure(p, what);
            }
            for (int name = 0; name <= 7; name++) {
                d = d * 31 + x.hiddenBy(p, name);
            }
            int length = isRight ? x.ofProcedure(p, 7) : 0;
            for (int k = 0; k < length; k++) {
                for (int what = 0; what <= 3; what++) {
                    d = d * 31 + x.code(p, k, what);
                }
            }
        }
        for (int n = 0; n < x.many(1); n++) {
            for (int what = 4; what <= 7; what++) {
                d = d * 31 + x.ofNode(n, what);
            }
        }
        for (int k = 0; k < x.many(3); k++) {
            for (int what = 0; what <= 2; what++) {
                d = d * 31 + x.fault(k, what);
            }
        }
        for (int what = 0; what <= 10; what++) {
            d = d * 31 + x.ofRun(what);
        }
        for (int k = 0; k < 50 && k < x.ofRun(4); k++) {
            for (int what = 0; what <= 2; what++) {
                d = d * 31 + x.printed(k, what);
            }
        }
        for (int what = 0; what <= 2 && isRight; what++) {
            d = d * 31 + x.with(0, what);
        }
        for (int what = 0; what <= 9 && isRight; what++) {
            d = d * 31 + x.wouldRun(200, 10, what);
        }
        return d;
    }
}
