import java.util.ArrayList;
import java.util.Arrays;
import java.util.List;

/** Makes calls up from a row of numbers, tells them to a Twin, and counts what its runs do. */
abstract class Maker {
    /** Something rare, in the order of Model.Run.rare. */
    static final int FAR_BREAK = 0;
    static final int TAIL = 1;
    static final int BY_NAME_USED = 2;
    static final int ENDED_FRAME_USED = 3;

    /** A new one, of that number. */
    interface Factory {
        Maker of(Check check, long number);
    }

    final Twin twin;
    private long seed;

    Maker(Check check, long seed) {
        this.twin = new Twin(check);
        this.seed = seed;
    }

    abstract void make();

    final int pick(int bound) {
        seed = seed * 6364136223846793005L + 1442695040888963407L;
        return (int) ((seed >>> 33) % bound);
    }

    /** A NAME that is one of these in p (p for a PROCEDURE); -1, if there is none. */
    final int nameOf(int p, String those) {
        List<Integer> names = new ArrayList<>();
        for (int name = 0; name <= 15; name++) {
            Model.Thing t = twin.model.resolve(p, name);
            if (t != null && those.indexOf("0123456789p".charAt(t.what)) >= 0) {
                names.add(name);
            }
        }
        return names.isEmpty() ? -1 : names.get(pick(names.size()));
    }

    /** Makes as many as args say; each of the TRAPS, and of what is rare, has to be there. */
    static void makeAll(Check check, int many, Factory factory, int[] dueTraps, int[] dueRare)
            throws InterruptedException {
        int[] rare = new int[4];
        int[] traps = new int[8];
        // The Model is recursive, and the programs are deep.
        Thread thread = new Thread(null, () -> makeEach(check, many, factory, traps, rare), "all",
            1L << 29);
        thread.start();
        thread.join();
        for (int trap : dueTraps) {
            if (traps[trap] == 0) {
                check.fail("no program has the TRAP " + trap + " of " + Arrays.toString(traps));
            }
        }
        for (int one : dueRare) {
            if (rare[one] == 0) {
                check.fail("no program has " + one + " of what is rare, " + Arrays.toString(rare));
            }
        }
    }

    private static void makeEach(Check check, int many, Factory factory, int[] traps, int[] rare) {
        try {
            for (int k = 0; k < many; k++) {
                Maker made = factory.of(check, k);
                made.make();
                add(traps, made.twin.traps);
                add(rare, made.twin.rare);
            }
        } catch (RuntimeException e) {
            e.printStackTrace();
            check.fail("a program ended with " + e);
        }
    }

    private static void add(int[] all, int[] more) {
        for (int k = 0; k < all.length; k++) {
            all[k] += more[k];
        }
    }

    static int many(String[] args, int otherwise) {
        return args.length > 0 ? Integer.parseInt(args[0]) : otherwise;
    }
}
